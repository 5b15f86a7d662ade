/** Promises 2 and 3. */
public final class MemoryTest {
    private static final int[] WRONG = {
        -1, -4, 1, 2, 3, 5, 2043, 2045, 2046, 2047, 2048, 2052, 4096, 0x10000000,
        Integer.MIN_VALUE, Integer.MAX_VALUE, Integer.MAX_VALUE - 3
    };

    public static void main(String[] args) {
        TrapMachine x = new TrapMachine();
        for (int i = 0; i < 200; i++) {
            x.load(4 * i, 7 - i * 0x1234567);
        }
        for (int i = 0; i < 200; i++) {
            Check.due("word " + 4 * i, x.word(4 * i), 7 - i * 0x1234567);
        }
        x.load(2044, Integer.MIN_VALUE);
        Check.due("the last word", x.word(2044), Integer.MIN_VALUE);
        x.load(2044, -1);
        Check.due("the last word again", x.word(2044), -1);
        Check.due("the one before it", x.word(2040), 0);
        wrongAddresses();
        loadsArePrograms();
        Check.end();
    }

    private static void wrongAddresses() {
        TrapMachine x = new TrapMachine();
        for (int address : WRONG) {
            Check.refused("load " + address, () -> x.load(address, 9));
            Check.refused("word " + address, () -> x.word(address));
        }
        for (int i = 0; i < 440; i++) {
            Check.due("word " + 4 * i + " after refusals", x.word(4 * i), 0);
        }
        Check.due("the last word after refusals", x.word(2044), 0);
    }

    private static void loadsArePrograms() {
        Rig rig = new Rig();
        rig.set(1, 77);
        rig.exec(9, 1, 0, 64);
        Check.due("a stored word", rig.x.word(64), 77);
        rig.exec(10, 2, 0, 64);
        rig.x.load(64, 78);
        Check.due("load leaves LINK", rig.x.register(9), 1);
        rig.exec(8, 2, 0, 64);
        Check.due("a loaded word", rig.x.register(2), 78);
    }
}
