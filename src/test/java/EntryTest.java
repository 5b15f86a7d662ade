/** Promise 11: the buffer, and the instructions that use it. */
public final class EntryTest {
    private static final int FAR = 0xFFFFFF80;

    public static void main(String[] args) {
        TrapMachine x = new TrapMachine();
        for (int e : new int[] {-1, 4, 5, Integer.MIN_VALUE, Integer.MAX_VALUE}) {
            Check.refused("entry " + e, () -> x.entry(e, 0));
            Check.refused("part " + (e == 4 || e == 5 ? e + 2 : e), () -> x.entry(0, e == 4 || e == 5 ? e + 2 : e));
            Check.refused("both", () -> x.entry(e, 6));
        }
        write();
        global();
        emptyOnes();
        search();
        read();
        for (int kind = 0; kind <= 4; kind++) {
            empty(kind);
        }
        emptyFarPair();
        emptyRefused();
        Check.end();
    }

    private static void dueEntry(Rig rig, int e, int... parts) {
        for (int what = 0; what < parts.length; what++) {
            Check.due("entry " + e + ", " + what, rig.x.entry(e, what), parts[what]);
        }
    }

    private static void write() {
        for (int e = 0; e <= 3; e++) {
            Rig rig = new Rig();
            rig.entry(e, -1, 13, Rig.half(31, Rig.FREE), Rig.half(9, 1));
            dueEntry(rig, e, 1, 0x1FFFFFF, 13, 0, 31 << 6 | 15, 9 << 6 | 1);
            Check.due("PLACE", rig.x.register(8), 12);
            for (int other = 0; other <= 3; other++) {
                if (other != e) {
                    dueEntry(rig, other, 0, 0, 0, 0, 0, 0);
                }
            }
        }
    }

    private static void global() {
        for (int both = 0; both <= 3; both++) {
            Rig rig = new Rig();
            int even = (both & 1) * Rig.GLOBAL;
            int odd = (both >> 1) * Rig.GLOBAL;
            rig.entry(1, 256, 2, 65 | even, 67 | odd);
            dueEntry(rig, 1, 1, 2, 2, both == 3 ? 1 : 0, 65, 67);
        }
    }

    /** EMPTY and the code of STATUS say whether what is written is there. */
    private static void emptyOnes() {
        Rig rig = new Rig();
        rig.entry(2, 256, 2, 65, 67);
        rig.control(Rig.HIGH, 512);
        rig.control(Rig.INDEX, Rig.EMPTY_BIT | 2);
        rig.exec(23, 0, 0, 0);
        dueEntry(rig, 2, 0, 4, 0, 0, 65, 67);
        rig.x.filled(3);
        rig.control(Rig.INDEX, 3);
        rig.exec(24, 0, 0, 0);
        dueEntry(rig, 3, 1, 4);
        rig.x.filled(3);
        rig.control(Rig.INDEX, Rig.EMPTY_BIT);
        rig.exec(24, 0, 0, 0);
        dueEntry(rig, 3, 0, 4);
        Check.due("INDEX stays", rig.x.control(Rig.INDEX), Rig.EMPTY_BIT);
        rig.control(Rig.REFILL, 8);
        rig.control(Rig.MODE, 0);
        rig.x.run(1);
        rig.dueException("nothing is mapped", 63, 12, 12, 0);
        rig.exec(24, 0, 0, 0);
        dueEntry(rig, 0, 1, 0, 0, 0, 65, 67);
        rig.exec(23, 0, 0, 0);
        rig.control(Rig.INDEX, Rig.EMPTY_BIT | 1);
        rig.exec(23, 0, 0, 0);
        dueEntry(rig, 1, 1, 0, 0, 0, 65, 67);
        rig.exec(17, 0, 0, 0);
        rig.exec(23, 0, 0, 0);
        dueEntry(rig, 1, 0, 0, 0, 0, 65, 67);
    }

    private static void search() {
        Rig rig = new Rig();
        rig.entry(0, 256, 1, 1, 1);
        rig.entry(1, 256, 2, 1, 1);
        rig.entry(2, 512, 3, 1 | Rig.GLOBAL, 1 | Rig.GLOBAL);
        rig.entry(3, FAR, 2, 1, 1);
        rig.control(Rig.SPACE, 2);
        dueSearch(rig, 256, 0, 1);
        dueSearch(rig, 512, 3, 2);
        dueSearch(rig, FAR, Rig.EMPTY_BIT | 1, 3);
        dueSearch(rig, 384, 2, Rig.EMPTY_BIT | 2);
        dueSearch(rig, 384, Rig.EMPTY_BIT | 3, Rig.EMPTY_BIT | 3);
        rig.control(Rig.SPACE, 1);
        dueSearch(rig, 256, 3, 0);
        dueSearch(rig, FAR, 0, Rig.EMPTY_BIT);
        rig.entry(1, 256, 1, 1, 1);
        dueSearch(rig, 256, 3, 0);
        rig.exec(25, 0, 0, 0);
        dueSearch(rig, 256, 3, Rig.EMPTY_BIT | 3);
    }

    private static void dueSearch(Rig rig, int high, int index, int want) {
        rig.control(Rig.HIGH, high);
        rig.control(Rig.INDEX, index);
        rig.exec(21, 0, 0, 0);
        Check.due("SEARCH " + high, rig.x.control(Rig.INDEX), want);
        Check.due("HIGH stays", rig.x.control(Rig.HIGH), high);
        Check.due("PLACE", rig.x.register(8), 12);
    }

    private static void read() {
        Rig rig = new Rig();
        rig.entry(1, FAR, 9, 64, 66);
        rig.entry(2, 256, 7, 79 | Rig.GLOBAL, 64 | Rig.GLOBAL);
        rig.control(Rig.SPACE, 4);
        rig.control(Rig.INDEX, Rig.EMPTY_BIT | 1);
        rig.exec(22, 0, 0, 0);
        dueRead(rig, 1, FAR, 64, 66, 9);
        rig.control(Rig.INDEX, 2);
        rig.exec(22, 0, 0, 0);
        dueRead(rig, 2, 256, 79 | Rig.GLOBAL, 64 | Rig.GLOBAL, 7);
        rig.control(Rig.INDEX, 3);
        rig.exec(22, 0, 0, 0);
        dueRead(rig, Rig.EMPTY_BIT | 3, 0, 0, 0, 7);
        Check.due("PLACE", rig.x.register(8), 12);
    }

    private static void dueRead(Rig rig, int index, int high, int even, int odd, int space) {
        Check.due("READ: INDEX", rig.x.control(Rig.INDEX), index);
        Check.due("READ: HIGH", rig.x.control(Rig.HIGH), high);
        Check.due("READ: EVEN", rig.x.control(Rig.EVEN), even);
        Check.due("READ: ODD", rig.x.control(Rig.ODD), odd);
        Check.due("READ: SPACE", rig.x.control(Rig.SPACE), space);
    }

    private static void empty(int kind) {
        Rig rig = new Rig();
        rig.entry(0, 256, 5, 1 | Rig.GLOBAL, 1 | Rig.GLOBAL);
        rig.entry(1, 256, 6, 1, 1);
        rig.entry(2, 512, 5, 1, 1);
        rig.entry(3, 256, 5, 1, 1);
        rig.control(Rig.SPACE, 6);
        rig.set(1, 0xF5);
        rig.set(2, 256 + 127);
        rig.exec(25, 1, 2, kind);
        int left = new int[] {0, 14, 1, 3, 7}[kind];
        for (int e = 0; e <= 3; e++) {
            Check.due("EMPTY " + kind + ", entry " + e, rig.x.entry(e, 0), left >> e & 1);
        }
        dueEntry(rig, 3, left >> 3, 2, 5, 0, 1, 1);
        Check.due("PLACE", rig.x.register(8), 12);
        Check.due("no exception", rig.code(), 0);
    }

    private static void emptyFarPair() {
        Rig rig = new Rig();
        rig.entry(1, FAR, 0, 1, 1);
        rig.set(2, FAR - 4);
        rig.exec(25, 0, 2, 4);
        Check.due("the pair before it", rig.x.entry(1, 0), 1);
        rig.set(2, -1);
        rig.exec(25, 0, 2, 4);
        Check.due("the last pair of all", rig.x.entry(1, 0), 0);
    }

    private static void emptyRefused() {
        for (int kind : new int[] {5, 8, 127, 128, 255}) {
            Rig rig = new Rig();
            rig.entry(0, 0, 0, 1, 1);
            rig.exec(25, 0, 0, kind);
            rig.dueException("EMPTY " + kind, 13, 8, 0, 0);
            Check.due("the entry is there", rig.x.entry(0, 0), 1);
        }
    }
}
