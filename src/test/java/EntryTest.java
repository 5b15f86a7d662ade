/** Promise 11. */
public final class EntryTest {
    private static final int THERE = 0;
    private static final int PAIR = 1;
    private static final int SPACE = 2;
    private static final int GLOBAL = 3;
    private static final int EVEN = 4;
    private static final int ODD = 5;
    private static final int[] WRONG = {-1, -4, 6, 7, 8, 64, Integer.MIN_VALUE, Integer.MAX_VALUE};

    public static void main(String[] args) {
        Check.sentence("whether it is there (what 0; 1 or 0)", EntryTest::there);
        Check.sentence("its pair (1)", EntryTest::pair);
        Check.sentence("space (2)", EntryTest::space);
        Check.sentence("GLOBAL (3)", EntryTest::global);
        Check.sentence("EVEN (4)", () -> half(EVEN));
        Check.sentence("ODD (5)", () -> half(ODD));
        Check.sentence("both as control registers show them, without GLOBAL", EntryTest::halvesWithoutGlobal);
        Check.sentence("IllegalArgumentException when e is not as said", EntryTest::refusesEntries);
        Check.sentence("IllegalArgumentException when what is not as said", EntryTest::refusesParts);
        Check.end();
    }

    private static void there() {
        for (int e = 0; e <= 3; e++) {
            Rig rig = new Rig();
            Check.due("at first", rig.x.entry(e, THERE), 0);
            rig.entry(e, 0, 0, 0, 0);
            Check.due("written", rig.x.entry(e, THERE), 1);
            rig.exec(25, 0, 0, 0);
            Check.due("emptied", rig.x.entry(e, THERE), 0);
        }
    }

    private static void pair() {
        int[][] pairs = {{0, 0}, {127, 0}, {128, 1}, {0x80000000, 0x1000000}, {-1, 0x1FFFFFF}};
        for (int e = 0; e <= 3; e++) {
            Rig rig = new Rig();
            for (int[] pair : pairs) {
                rig.entry(e, pair[0], 0, 0, 0);
                Check.due("pair of " + pair[0], rig.x.entry(e, PAIR), pair[1]);
            }
        }
    }

    private static void space() {
        for (int e = 0; e <= 3; e++) {
            Rig rig = new Rig();
            for (int space : new int[] {0, 1, 8, 15}) {
                rig.entry(e, 0, space, 0, 0);
                Check.due("space", rig.x.entry(e, SPACE), space);
            }
        }
    }

    private static void global() {
        for (int e = 0; e <= 3; e++) {
            for (int both = 0; both <= 3; both++) {
                Rig rig = new Rig();
                rig.entry(e, 0, 0, (both & 1) * Rig.GLOBAL, (both >> 1) * Rig.GLOBAL);
                Check.due("GLOBAL", rig.x.entry(e, GLOBAL), both == 3 ? 1 : 0);
            }
        }
    }

    private static void half(int what) {
        for (int e = 0; e <= 3; e++) {
            for (int bits : new int[] {0, 1, 2, 12, 64, 31 << 6, 31 << 6 | 15}) {
                Rig rig = new Rig();
                rig.entry(e, 0, 0, what == EVEN ? bits : 0, what == ODD ? bits : 0);
                Check.due("the half", rig.x.entry(e, what), bits);
                Check.due("the other half", rig.x.entry(e, EVEN + ODD - what), 0);
            }
        }
    }

    private static void halvesWithoutGlobal() {
        for (int both = 0; both <= 3; both++) {
            Rig rig = new Rig();
            rig.entry(2, 0, 0, 0x7CF | (both & 1) * Rig.GLOBAL, 0x41 | (both >> 1) * Rig.GLOBAL);
            Check.due("EVEN", rig.x.entry(2, EVEN), 0x7CF);
            Check.due("ODD", rig.x.entry(2, ODD), 0x41);
        }
        Rig rig = new Rig();
        rig.entry(2, 0, 0, 4, 8);
        Check.due("a level of 1", rig.x.entry(2, EVEN), 12);
        Check.due("a level of 2", rig.x.entry(2, ODD), 12);
        rig.entry(2, 0, 0, -1, -1);
        Check.due("all bits", rig.x.entry(2, EVEN), 0x7CF);
        Check.due("of both", rig.x.entry(2, ODD), 0x7CF);
    }

    private static void refusesEntries() {
        TrapMachine x = new TrapMachine();
        for (int what = 0; what <= 5; what++) {
            int part = what;
            Check.refused("entry 4, " + what, () -> x.entry(4, part));
            for (int e : WRONG) {
                Check.refused("entry " + e + ", " + what, () -> x.entry(e, part));
            }
        }
        Check.due("the last one", x.entry(3, 0), 0);
    }

    private static void refusesParts() {
        TrapMachine x = new TrapMachine();
        for (int e = 0; e <= 3; e++) {
            int entry = e;
            for (int what : WRONG) {
                Check.refused("entry " + e + ", " + what, () -> x.entry(entry, what));
            }
        }
        Check.refused("both not as said", () -> x.entry(4, 6));
        Check.refused("both below", () -> x.entry(-1, -1));
        Check.due("the last one", x.entry(0, 5), 0);
    }
}
