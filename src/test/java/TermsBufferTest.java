/** The terms: the buffer, and the instructions 21 to 25 that use it. */
public final class TermsBufferTest {
    private static final int BOTH = Rig.GLOBAL;
    private static final int FAR = 0xFFFFFF80;

    public static void main(String[] args) {
        Check.sentence("THE BUFFER has ENTRIES 0 .. 3", TermsBufferTest::fourEntries);
        Check.sentence("21 SEARCH: the lowest entry", TermsBufferTest::searchLowest);
        Check.sentence("that is there with the pair of HIGH, GLOBAL or with SPACE", TermsBufferTest::searchFits);
        Check.sentence("INDEX becomes its number (EMPTY 0)", TermsBufferTest::searchIndex);
        Check.sentence("if there is none EMPTY becomes 1", TermsBufferTest::searchNone);
        Check.sentence("22 READ: if the entry of INDEX is there: HIGH, EVEN, ODD and SPACE become what it has, EMPTY 0",
            TermsBufferTest::readThere);
        Check.sentence("(GLOBAL in both)", TermsBufferTest::readGlobal);
        Check.sentence("else HIGH, EVEN and ODD become 0, EMPTY 1", TermsBufferTest::readNotThere);
        Check.sentence("23 WRITE: the entry of INDEX gets pair, halves and space from HIGH, EVEN, ODD and SPACE",
            TermsBufferTest::write);
        Check.sentence("it is GLOBAL if both are", TermsBufferTest::writeGlobal);
        Check.sentence("it is there if not EMPTY", TermsBufferTest::writeEmpty);
        Check.sentence("or the code of STATUS is 63", TermsBufferTest::writeInRefill);
        Check.sentence("24 FILL: like 23 for the entry FILLED", TermsBufferTest::fill);
        Check.sentence("which becomes 1 more then (after 3: 0)", TermsBufferTest::filledGoesOn);
        Check.sentence("25 EMPTY by c: 0 all entries are there no more", () -> empties(0, 0));
        Check.sentence("1 those that are GLOBAL", () -> empties(1, 14));
        Check.sentence("2 those that are not", () -> empties(2, 1));
        Check.sentence("3 of these those with the space of a", () -> empties(3, 1 | 2));
        Check.sentence("(lowest four bits)", TermsBufferTest::spaceOfFourBits);
        Check.sentence("4 of these those with the pair of b, too", TermsBufferTest::emptyPair);
        Check.sentence("EMPTY by c (a byte): others: exception 13", TermsBufferTest::emptyOthers);
        Check.end();
    }

    private static void fourEntries() {
        for (int e = 0; e <= 3; e++) {
            Rig rig = new Rig();
            rig.entry(e, -1, 13, Rig.half(31, Rig.FREE), Rig.half(9, 1));
            for (int other = 0; other <= 3; other++) {
                if (other == e) {
                    rig.dueEntry("written", e, 1, 0x1FFFFFF, 13, 0, 31 << 6 | 15, 9 << 6 | 1);
                } else {
                    rig.dueEntry("not written", other, 0, 0, 0, 0, 0, 0);
                }
            }
        }
    }

    private static void dueSearch(Rig rig, int high, int index, int want) {
        rig.control(Rig.HIGH, high);
        rig.control(Rig.INDEX, index);
        int space = rig.x.control(Rig.SPACE);
        Check.due("steps", rig.exec(21, 0, 0, 0), 1);
        Check.due("SEARCH " + Integer.toHexString(high), rig.x.control(Rig.INDEX), want);
        Check.due("HIGH stays", rig.x.control(Rig.HIGH), high);
        Check.due("SPACE stays", rig.x.control(Rig.SPACE), space);
    }

    private static void searchLowest() {
        for (int lowest = 0; lowest <= 3; lowest++) {
            Rig rig = new Rig();
            for (int e = lowest; e <= 3; e++) {
                rig.entry(e, 256, 0, 1 | (e == 3 ? BOTH : 0), 1 | (e == 3 ? BOTH : 0));
            }
            dueSearch(rig, 256, 3 - lowest, lowest);
            Check.due("many that fit do not stop it", rig.x.state(), 0);
        }
    }

    private static void searchFits() {
        Rig rig = new Rig();
        rig.entry(0, 256, 1, 1, 1);
        rig.entry(1, 256, 2, 0, 0);
        rig.entry(2, 512, 3, BOTH, BOTH);
        rig.entry(3, FAR, 2, 1, 1 | BOTH);
        rig.control(Rig.SPACE, 2);
        dueSearch(rig, 256, 0, 1);
        dueSearch(rig, 512, 3, 2);
        dueSearch(rig, FAR, 0, 3);
        rig.control(Rig.SPACE, 1);
        dueSearch(rig, 256, 3, 0);
        dueSearch(rig, 512, 3, 2);
        dueSearch(rig, FAR, 0, Rig.EMPTY_BIT);
        dueSearch(rig, 384, 0, Rig.EMPTY_BIT);
        dueSearch(rig, FAR - 128, 0, Rig.EMPTY_BIT);
        Rig gone = new Rig();
        gone.entry(0, 256, 0, 1, 1);
        gone.entry(2, 256, 0, 1 | BOTH, 1 | BOTH);
        gone.exec(25, 0, 0, 2);
        dueSearch(gone, 256, 0, 2);
        dueSearch(new Rig(), 0, 0, Rig.EMPTY_BIT);
    }

    private static void searchIndex() {
        for (int e = 0; e <= 3; e++) {
            Rig rig = new Rig();
            rig.entry(e, 256, 0, 1, 1);
            for (int index = 0; index <= 3; index++) {
                dueSearch(rig, 256, index, e);
                dueSearch(rig, 256, Rig.EMPTY_BIT | index, e);
            }
        }
    }

    private static void searchNone() {
        Rig rig = new Rig();
        for (int index = 0; index <= 3; index++) {
            dueSearch(rig, 256, index, Rig.EMPTY_BIT | index);
            dueSearch(rig, 256, Rig.EMPTY_BIT | index, Rig.EMPTY_BIT | index);
        }
    }

    private static void read(Rig rig, int index) {
        rig.control(Rig.INDEX, index);
        rig.control(Rig.HIGH, 0x5A80);
        rig.control(Rig.EVEN, 0x7DF);
        rig.control(Rig.ODD, 0x7DF);
        rig.control(Rig.SPACE, 4);
        Check.due("steps", rig.exec(22, 0, 0, 0), 1);
        Check.due("PLACE", rig.x.register(8), Rig.BEHIND);
    }

    private static void dueRead(Rig rig, int index, int high, int even, int odd, int space) {
        Check.due("INDEX", rig.x.control(Rig.INDEX), index);
        Check.due("HIGH", rig.x.control(Rig.HIGH), high);
        Check.due("EVEN", rig.x.control(Rig.EVEN), even);
        Check.due("ODD", rig.x.control(Rig.ODD), odd);
        Check.due("SPACE", rig.x.control(Rig.SPACE), space);
    }

    private static void readThere() {
        for (int e = 0; e <= 3; e++) {
            Rig rig = new Rig();
            rig.entry(e, FAR, 15, Rig.half(31, Rig.FREE), 0);
            read(rig, e);
            dueRead(rig, e, FAR, 31 << 6 | 15, 0, 15);
            read(rig, Rig.EMPTY_BIT | e);
            dueRead(rig, e, FAR, 31 << 6 | 15, 0, 15);
            rig.dueEntry("it stays", e, 1, 0x1FFFFFF, 15, 0, 31 << 6 | 15, 0);
        }
        Rig least = new Rig();
        least.entry(2, 0, 0, 0, 0);
        read(least, 2);
        dueRead(least, 2, 0, 0, 0, 0);
    }

    private static void readGlobal() {
        for (int both = 0; both <= 3; both++) {
            Rig rig = new Rig();
            rig.entry(1, 256, 7, 79 | (both & 1) * BOTH, 64 | (both >> 1) * BOTH);
            read(rig, 1);
            int shown = both == 3 ? BOTH : 0;
            dueRead(rig, 1, 256, 79 | shown, 64 | shown, 7);
        }
    }

    private static void readNotThere() {
        Rig rig = new Rig();
        for (int e = 0; e <= 3; e++) {
            read(rig, e);
            dueRead(rig, Rig.EMPTY_BIT | e, 0, 0, 0, 4);
        }
        Rig gone = new Rig();
        gone.entry(2, FAR, 9, 79, 79);
        gone.exec(25, 0, 0, 0);
        read(gone, 2);
        dueRead(gone, Rig.EMPTY_BIT | 2, 0, 0, 0, 4);
        read(gone, Rig.EMPTY_BIT | 2);
        dueRead(gone, Rig.EMPTY_BIT | 2, 0, 0, 0, 4);
    }

    private static void write() {
        for (int e = 0; e <= 3; e++) {
            Rig rig = new Rig();
            rig.entry(e, 0x80000080, 9, Rig.half(16, 1), Rig.half(1, 14));
            rig.dueEntry("first", e, 1, 0x1000001, 9, 0, 16 << 6 | 1, 1 << 6 | 14);
            rig.entry(e, -1, 15, 0x7CF, 0x7CF);
            rig.dueEntry("over it", e, 1, 0x1FFFFFF, 15, 0, 0x7CF, 0x7CF);
            rig.entry(e, 0, 0, 0, 0);
            rig.dueEntry("the least", e, 1, 0, 0, 0, 0, 0);
            Check.due("INDEX stays", rig.x.control(Rig.INDEX), e);
            Check.due("PLACE", rig.x.register(8), Rig.BEHIND);
        }
    }

    private static void writeGlobal() {
        for (int both = 0; both <= 3; both++) {
            Rig rig = new Rig();
            rig.entry(1, 256, 2, 65 | (both & 1) * BOTH, 67 | (both >> 1) * BOTH);
            rig.dueEntry("GLOBAL in " + both, 1, 1, 2, 2, both == 3 ? 1 : 0, 65, 67);
            rig.entry(1, 256, 2, 65, 67);
            rig.dueEntry("GLOBAL in none again", 1, 1, 2, 2, 0, 65, 67);
        }
    }

    private static void writeEmpty() {
        Rig rig = new Rig();
        rig.entry(2, 256, 2, 65, 67);
        rig.control(Rig.HIGH, 512);
        rig.control(Rig.INDEX, Rig.EMPTY_BIT | 2);
        rig.exec(23, 0, 0, 0);
        rig.dueEntry("EMPTY", 2, 0, 4, 0, 0, 65, 67);
        rig.control(Rig.INDEX, 2);
        rig.exec(23, 0, 0, 0);
        rig.dueEntry("not EMPTY", 2, 1, 4, 0, 0, 65, 67);
        for (int code : new int[] {16, 17, 0}) {
            rig.exec(code, 0, 0, 0);
            rig.control(Rig.INDEX, Rig.EMPTY_BIT | 3);
            rig.exec(23, 0, 0, 0);
            rig.dueEntry("EMPTY with another code", 3, 0, 4, 0, 0, 65, 67);
        }
    }

    private static Rig refilling() {
        Rig rig = new Rig();
        rig.control(Rig.MODE, 0);
        rig.x.run(1);
        Check.due("code", rig.code(), 63);
        return rig;
    }

    private static void writeInRefill() {
        for (int empty : new int[] {0, Rig.EMPTY_BIT}) {
            Rig rig = refilling();
            rig.control(Rig.INDEX, empty | 1);
            rig.exec(23, 0, 0, 0);
            Check.due("WRITE", rig.x.entry(1, 0), 1);
            rig.exec(24, 0, 0, 0);
            Check.due("FILL", rig.x.entry(0, 0), 1);
            Check.due("INDEX stays", rig.x.control(Rig.INDEX), empty | 1);
            rig.exec(16, 0, 0, 0);
            rig.exec(23, 0, 0, 0);
            Check.due("WRITE behind another exception", rig.x.entry(1, 0), empty == 0 ? 1 : 0);
        }
    }

    private static void fill() {
        for (int filled = 0; filled <= 3; filled++) {
            Rig rig = new Rig();
            rig.x.filled(filled);
            rig.control(Rig.INDEX, filled ^ 1);
            rig.control(Rig.HIGH, FAR);
            rig.control(Rig.EVEN, 79 | BOTH);
            rig.control(Rig.ODD, 67 | BOTH);
            rig.control(Rig.SPACE, 6);
            rig.exec(24, 0, 0, 0);
            rig.dueEntry("FILL", filled, 1, 0x1FFFFFF, 6, 1, 79, 67);
            rig.dueEntry("not by INDEX", filled ^ 1, 0, 0, 0, 0, 0, 0);
            rig.x.filled(filled);
            rig.control(Rig.INDEX, Rig.EMPTY_BIT);
            rig.exec(24, 0, 0, 0);
            rig.dueEntry("FILL when EMPTY", filled, 0, 0x1FFFFFF, 6, 1, 79, 67);
            Check.due("PLACE", rig.x.register(8), Rig.BEHIND);
        }
    }

    private static void filledGoesOn() {
        for (int first = 0; first <= 3; first++) {
            Rig rig = new Rig();
            rig.x.filled(first);
            for (int n = 0; n < 9; n++) {
                rig.control(Rig.HIGH, 128 * (n + 1));
                rig.exec(24, 0, 0, 0);
                Check.due("FILL " + n + " behind " + first, rig.x.entry((first + n) % 4, 1), n + 1);
            }
        }
        Rig rig = new Rig();
        rig.exec(23, 0, 0, 0);
        rig.exec(21, 0, 0, 0);
        rig.exec(22, 0, 0, 0);
        rig.control(Rig.HIGH, 128);
        rig.exec(24, 0, 0, 0);
        Check.due("WRITE, SEARCH and READ leave FILLED", rig.x.entry(0, 1), 1);
    }

    /** Entry 0 is GLOBAL; 1 has another space; 2 and 3 have the space 5, and different pairs. */
    private static Rig full() {
        Rig rig = new Rig();
        rig.entry(0, 256, 5, 1 | BOTH, 1 | BOTH);
        rig.entry(1, 256, 6, 1 | BOTH, 1);
        rig.entry(2, 512, 5, 1, 1);
        rig.entry(3, 256, 5, 1, 1 | BOTH);
        rig.control(Rig.SPACE, 6);
        rig.control(Rig.HIGH, 512);
        return rig;
    }

    private static void dueLeft(Rig rig, String what, int left) {
        int[][] parts = {{2, 5, 1}, {2, 6, 0}, {4, 5, 0}, {2, 5, 0}};
        for (int e = 0; e <= 3; e++) {
            rig.dueEntry(what, e, left >> e & 1, parts[e][0], parts[e][1], parts[e][2], 1, 1);
        }
        Check.due(what + ": no exception", rig.x.control(Rig.STATUS), 0);
        Check.due(what + ": PLACE", rig.x.register(8), Rig.BEHIND);
    }

    private static void empties(int kind, int left) {
        Rig rig = full();
        rig.set(1, 5);
        rig.set(2, 256);
        rig.exec(25, 1, 2, kind);
        dueLeft(rig, "EMPTY " + kind, left);
        rig.exec(25, 1, 2, kind);
        dueLeft(rig, "EMPTY " + kind + " twice", left);
    }

    private static void spaceOfFourBits() {
        for (int a : new int[] {5, 0xF5, 0x15, 0x80000005}) {
            Rig rig = full();
            rig.set(1, a);
            rig.exec(25, 1, 0, 3);
            dueLeft(rig, "space " + a, 3);
            Rig pair = full();
            pair.set(1, a);
            pair.set(2, 256);
            pair.exec(25, 1, 2, 4);
            dueLeft(pair, "space " + a + " and a pair", 7);
        }
        Rig other = full();
        other.set(1, 0x56);
        other.exec(25, 1, 0, 3);
        dueLeft(other, "space 6", 13);
        Rig none = full();
        none.exec(25, 0, 0, 3);
        dueLeft(none, "space 0", 15);
    }

    private static void emptyPair() {
        int[][] lefts = {{256, 7}, {256 + 127, 7}, {512, 11}, {512 - 1, 15}, {512 - 128, 15}, {255, 15}, {0x80000100, 15}};
        for (int[] left : lefts) {
            Rig rig = full();
            rig.set(1, 5);
            rig.set(2, left[0]);
            rig.exec(25, 1, 2, 4);
            dueLeft(rig, "pair of " + left[0], left[1]);
        }
        Rig far = new Rig();
        far.entry(1, FAR, 0, 1, 1);
        far.set(2, FAR - 4);
        far.exec(25, 0, 2, 4);
        Check.due("the pair before the last", far.x.entry(1, 0), 1);
        far.set(2, -1);
        far.exec(25, 0, 2, 4);
        Check.due("the last pair", far.x.entry(1, 0), 0);
    }

    private static void emptyOthers() {
        for (int c = 5; c < 256; c++) {
            Rig rig = new Rig();
            rig.control(Rig.ENTRY, 512);
            rig.exec(23, 0, 0, 0);
            rig.exec(25, 0, 0, c);
            rig.dueException("EMPTY " + c, 13, 8, 0, 0);
            Check.due("the entry is there", rig.x.entry(0, 0), 1);
        }
    }
}
