/** The terms: registers, PLACE, memory, pages and pairs. */
public final class TermsRegistersTest {
    private static final int[] VALUES = {0, 1, -1, Integer.MIN_VALUE, Integer.MAX_VALUE, 0x12345678};

    /** Code, b and c of instructions that give a something else than 0, when register 1 is 64 and register 4 is -1. */
    private static final int[][] GIVERS = {
        {1, 4, 4}, {2, 4, 0}, {3, 4, 4}, {4, 4, 4}, {5, 4, 1}, {6, 4, 4}, {7, 4, 4}, {8, 1, 0}, {10, 1, 0}, {11, 1, 0},
        {15, 4, 4}, {18, 4, Rig.KEPT}, {19, 4, Rig.KEPT}, {20, 4, Rig.KEPT}
    };

    public static void main(String[] args) {
        Check.sentence("REGISTERS 0 .. 7 are ints", TermsRegistersTest::registersAreInts);
        Check.sentence("(0 is always 0)", TermsRegistersTest::zeroStaysZero);
        Check.sentence("so is PLACE", TermsRegistersTest::placeIsAnInt);
        Check.sentence("(0 at first)", TermsRegistersTest::placeAtFirst);
        Check.sentence("MEMORY is 512 words", TermsRegistersTest::wordsAreApart);
        Check.sentence("at the addresses 0, 4, .., 2044", TermsRegistersTest::endsOfMemory);
        Check.sentence("A PAGE is 64 bytes", TermsRegistersTest::pagesEnd);
        Check.sentence("a PAIR is two pages", TermsRegistersTest::pairsEnd);
        Check.sentence("its number the address shifted right by 7 bits (unsigned)", TermsRegistersTest::pairNumbers);
        Check.end();
    }

    private static void registersAreInts() {
        Rig rig = new Rig();
        for (int value : VALUES) {
            for (int r = 1; r <= 7; r++) {
                rig.set(r, value + r);
            }
            for (int r = 1; r <= 7; r++) {
                Check.due("register " + r, rig.x.register(r), value + r);
            }
        }
    }

    private static void zeroStaysZero() {
        for (int[] instruction : GIVERS) {
            for (int a : new int[] {0, 8, 0xF8}) {
                dueZero(instruction[0], a, instruction[1], instruction[2]);
            }
        }
    }

    private static void dueZero(int code, int a, int b, int c) {
        Rig rig = new Rig();
        rig.control(Rig.KEPT, 5);
        rig.exec(10, 6, 0, 0);
        rig.set(1, 64);
        rig.set(4, -1);
        rig.x.load(64, 99);
        rig.exec(code, a, b, c);
        String what = "code " + code + ", a " + a;
        Check.due(what + ": no exception", rig.x.control(Rig.STATUS), 0);
        Check.due(what + ": register 0", rig.x.register(0), 0);
        rig.exec(6, 3, 0, 7);
        Check.due(what + ": and as b", rig.x.register(3), 7);
    }

    private static void placeIsAnInt() {
        for (int p : VALUES) {
            Rig rig = new Rig();
            rig.x.jump(p);
            Check.due("PLACE", rig.x.register(8), p);
        }
        for (int last : new int[] {-4, Integer.MAX_VALUE - 3}) {
            Probe probe = new Probe();
            probe.rig.entry(1, last, 0, 0, Rig.half(20, Rig.FREE));
            probe.dueReached(Probe.FETCH, last, 3, 20 * 64 + 60);
        }
    }

    private static void placeAtFirst() {
        TrapMachine x = new TrapMachine();
        Check.due("PLACE", x.register(8), 0);
        x.load(0, Rig.op(6, 1, 0, 9));
        x.run(1);
        Check.due("the word at 0 is done", x.register(1), 9);
    }

    /** Each machine holds 256 words, which with a look at each are as many calls as an object is promised for. */
    private static void wordsAreApart() {
        dueApart(0, 1);
        dueApart(256, 1);
        dueApart(0, 2);
        dueApart(1, 2);
    }

    private static void dueApart(int first, int stride) {
        TrapMachine x = new TrapMachine();
        for (int i = 0; i < 256; i++) {
            x.load(4 * (first + stride * i), 1 + i * 0x1234567);
        }
        for (int i = 0; i < 256; i++) {
            int address = 4 * (first + stride * i);
            Check.due("word " + address, x.word(address), 1 + i * 0x1234567);
        }
    }

    private static void endsOfMemory() {
        TrapMachine x = new TrapMachine();
        for (int address : new int[] {0, 4, 2040, 2044}) {
            x.load(address, address + 7);
            Check.due("word " + address, x.word(address), address + 7);
        }
        for (int address : new int[] {-4, 2048}) {
            Check.refused("word " + address, () -> x.word(address));
        }
        for (int use : Probe.USES) {
            new Probe().dueReached(use, 0, 8, 0);
            new Probe().dueReached(use, 2044, 8, 2044);
            new Probe().dueRefused(use, 2048, 8, 8, false);
            new Probe().dueRefused(use, -4, 8, 8, false);
        }
    }

    private static Probe twoPages() {
        Probe probe = new Probe();
        probe.rig.entry(1, 4096, 0, Rig.half(20, Rig.FREE), Rig.half(10, Rig.FREE));
        return probe;
    }

    private static void pagesEnd() {
        twoPages().dueReached(Probe.LOAD, 4096, 0, 20 * 64);
        twoPages().dueReached(Probe.LOAD, 4096 + 60, 0, 20 * 64 + 60);
        twoPages().dueReached(Probe.LOAD, 4096 + 64, 0, 10 * 64);
        twoPages().dueReached(Probe.LOAD, 4096 + 124, 0, 10 * 64 + 60);
    }

    private static void pairsEnd() {
        twoPages().dueRefused(Probe.LOAD, 4096 - 4, 0, 63, true);
        twoPages().dueReached(Probe.LOAD, 4096, 0, 20 * 64);
        twoPages().dueReached(Probe.LOAD, 4096 + 124, 0, 10 * 64 + 60);
        twoPages().dueRefused(Probe.LOAD, 4096 + 128, 0, 63, true);
    }

    private static void pairNumbers() {
        int[][] pairs = {
            {0, 0}, {127, 0}, {128, 1}, {255, 1}, {0x7FFFFFFF, 0xFFFFFF}, {0x80000000, 0x1000000},
            {0xFFFFFF7F, 0x1FFFFFE}, {0xFFFFFF80, 0x1FFFFFF}, {-1, 0x1FFFFFF}
        };
        Rig rig = new Rig();
        for (int[] pair : pairs) {
            rig.control(Rig.HIGH, pair[0]);
            rig.exec(23, 0, 0, 0);
            Check.due("pair of " + pair[0], rig.x.entry(0, 1), pair[1]);
        }
    }
}
