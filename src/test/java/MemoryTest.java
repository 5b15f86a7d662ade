/** Promises 2 and 3. */
public final class MemoryTest {
    private static final int[] WRONG = {
        -1, -2, -3, -4, -2048, 1, 2, 3, 5, 2041, 2043, 2045, 2046, 2047, 2048, 2049, 2052, 4096, 0x10000000,
        0x40000000, Integer.MIN_VALUE, Integer.MIN_VALUE + 4, Integer.MAX_VALUE, Integer.MAX_VALUE - 3
    };

    public static void main(String[] args) {
        Check.sentence("The word of memory at an address becomes word", MemoryTest::loads);
        Check.sentence("load: IllegalArgumentException when there is none", MemoryTest::refusesLoads);
        Check.sentence("changing nothing", MemoryTest::refusalsChangeNothing);
        Check.sentence("The word of memory at an address", MemoryTest::words);
        Check.sentence("word: IllegalArgumentException when there is none", MemoryTest::refusesWords);
        Check.end();
    }

    private static void loads() {
        TrapMachine x = new TrapMachine();
        int[] values = {0, 1, -1, Integer.MIN_VALUE, Integer.MAX_VALUE, 0x12345678};
        for (int address : new int[] {0, 4, 1020, 1024, 2040, 2044}) {
            for (int value : values) {
                x.load(address, value);
                Check.due("word " + address, x.word(address), value);
            }
        }
        Rig rig = new Rig();
        rig.exec(10, 2, 0, 64);
        rig.x.load(64, 78);
        Check.due("load leaves LINK", rig.x.register(9), 1);
        rig.exec(8, 2, 0, 64);
        Check.due("a program sees it", rig.x.register(2), 78);
        rig.exec(27, 0, 0, 0);
        rig.x.load(64, 79);
        Check.due("load leaves the rest", rig.x.state(), 1);
        Check.due("and is done in it", rig.x.word(64), 79);
    }

    private static void refusesLoads() {
        TrapMachine x = new TrapMachine();
        for (int address : WRONG) {
            Check.refused("load " + address, () -> x.load(address, 9));
        }
    }

    private static void refusalsChangeNothing() {
        TrapMachine x = new TrapMachine();
        for (int address : WRONG) {
            Check.refused("load " + address, () -> x.load(address, 9));
        }
        for (int i = 0; i < 440; i++) {
            Check.due("word " + 4 * i, x.word(4 * i), 0);
        }
        Check.due("the last word", x.word(2044), 0);
        Check.due("PLACE", x.register(8), 0);
        Check.due("ADDRESS", x.control(5), 0);
        Check.due("STATUS", x.control(3), 0);
        TrapMachine y = new TrapMachine();
        for (int address : WRONG) {
            Check.refused("load " + address, () -> y.load(address, 9));
        }
        for (int i = 440; i < 512; i++) {
            Check.due("word " + 4 * i, y.word(4 * i), 0);
        }
    }

    private static void words() {
        Rig rig = new Rig();
        rig.set(1, 77);
        rig.exec(9, 1, 0, 64);
        Check.due("what a program stored", rig.x.word(64), 77);
        Check.due("the same again", rig.x.word(64), 77);
        Check.due("the one before", rig.x.word(60), 0);
        Check.due("the one behind", rig.x.word(68), 0);
        rig.control(Rig.MODE, 3);
        Check.due("while addresses are mapped", rig.x.word(64), 77);
    }

    private static void refusesWords() {
        TrapMachine x = new TrapMachine();
        for (int address : WRONG) {
            Check.refused("word " + address, () -> x.word(address));
        }
        Rig rig = new Rig();
        rig.control(Rig.WINDOW, 0x90000009);
        rig.control(Rig.MODE, 0);
        Check.refused("an address in the window", () -> rig.x.word(0x90000040));
        Check.refused("and its load", () -> rig.x.load(0x90000040, 1));
    }
}
