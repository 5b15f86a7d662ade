/** How an address is looked at, by a fetch, a load and a store. */
public final class AddressTest {
    private static final int FETCH = 0;
    private static final int LOAD = 8;
    private static final int STORE = 9;
    private static final int[] USES = {FETCH, LOAD, STORE};
    private static final int CODE_PAGE = 1920;

    public static void main(String[] args) {
        for (int use : USES) {
            direct(use);
            window(use);
            notMapped(use);
            halves(use);
            refusals(use);
            spaces(use);
        }
        refillAndBack();
        backWhileMapped();
        Check.end();
    }

    /**
     * A machine whose page CODE_PAGE maps to itself for all, ready for mapped addresses.
     * Register 1 is 42.
     */
    private static Rig mapped() {
        Rig rig = new Rig();
        int all = Rig.FREE | Rig.GLOBAL;
        rig.entry(0, CODE_PAGE, 0, Rig.half(30, all), Rig.half(31, all));
        rig.control(Rig.ENTRY, 0x700);
        rig.control(Rig.REFILL, 0x704);
        rig.set(1, 42);
        return rig;
    }

    /** Tries an address in a way; the machine's code runs in CODE_PAGE. */
    private static void use(Rig rig, int use, int address, int mode) {
        rig.set(2, address);
        rig.x.load(CODE_PAGE, Rig.op(use, 1, 2, 0));
        rig.control(Rig.MODE, mode);
        rig.x.jump(use == FETCH ? address : CODE_PAGE);
        Check.due("steps", rig.x.run(1), 1);
    }

    /** The address led to the real one. */
    private static void dueReached(Rig rig, int use, int address, int mode, int real) {
        rig.x.load(real, use == FETCH ? Rig.op(6, 1, 0, 77) : 77);
        use(rig, use, address, mode);
        String what = "use " + use + " of " + Integer.toHexString(address);
        Check.due(what + ": code", rig.code(), 0);
        Check.due(what + ": PLACE", rig.x.register(8), (use == FETCH ? address : CODE_PAGE) + 4);
        if (use == STORE) {
            Check.due(what + ": word", rig.x.word(real), 42);
        } else {
            Check.due(what + ": register", rig.x.register(1), 77);
        }
    }

    private static void dueRefused(Rig rig, int use, int address, int mode, int code, boolean withHigh) {
        use(rig, use, address, mode);
        int back = use == FETCH ? address : CODE_PAGE;
        String what = "use " + use + " of " + Integer.toHexString(address);
        rig.dueException(what, code, back, address, withHigh ? address & -128 : 0);
        Check.due(what + ": register", rig.x.register(1), 42);
        Check.due(what + ": BEFORE", rig.x.control(Rig.BEFORE), mode & 7);
        Check.due(what + ": MODE", rig.x.control(Rig.MODE), code == 63 ? 8 : mode & 8);
    }

    private static void direct(int use) {
        for (int address : new int[] {64, 1024, 2044}) {
            dueReached(mapped(), use, address, 8, address);
            dueReached(mapped(), use, address, 11, address);
        }
        for (int address : new int[] {2048, 4096, -4, 0x10000000, 0x80000000, 0x7FFFFFFC}) {
            dueRefused(mapped(), use, address, 11, 8, false);
        }
        for (int address : new int[] {1, 2, 3, 2047, -1, 0x80000001}) {
            dueRefused(mapped(), use, address, 8, use == FETCH ? 8 : 9, false);
            dueRefused(mapped(), use, address, 3, use == FETCH ? 8 : 9, false);
        }
    }

    private static Rig windowed(int window) {
        Rig rig = mapped();
        rig.control(Rig.WINDOW, window);
        return rig;
    }

    private static void window(int use) {
        dueReached(windowed(0x90000001), use, 0x90000400, 0, 1024);
        dueReached(windowed(0x90000008), use, 0x90000400, 3, 1024);
        dueReached(windowed(0xF0000009), use, 0xF00007FC, 3, 2044);
        dueReached(windowed(0x00000001), use, 1024, 0, 1024);
        dueRefused(windowed(0x90000008), use, 0x90000400, 0, 63, true);
        dueRefused(windowed(0x90000001), use, 0x90000400, 3, 63, true);
        dueRefused(windowed(0x90000009), use, 0x80000400, 3, 63, true);
        dueRefused(windowed(0x90000009), use, 0x90000800, 0, 8, false);
        dueRefused(windowed(0x90000009), use, 0x9FFFFFFC, 3, 8, false);
        dueRefused(windowed(0x90000009), use, 0x90000402, 3, use == FETCH ? 8 : 9, false);
        Rig direct = windowed(0x90000009);
        dueRefused(direct, use, 0x90000400, 8, 8, false);
        Rig both = windowed(0x00000009);
        both.entry(1, 1024, 0, Rig.half(2, Rig.FREE), Rig.half(2, Rig.FREE));
        dueReached(both, use, 1024, 0, 1024);
    }

    private static void notMapped(int use) {
        for (int address : new int[] {0, 60, 64, 124, 2048, 0x12345678, 0xFFFFFFFC}) {
            dueRefused(mapped(), use, address, 7, 63, true);
        }
        Rig gone = mapped();
        gone.entry(2, 256, 0, Rig.FREE, Rig.FREE);
        gone.exec(25, 0, 0, 2);
        dueRefused(gone, use, 256, 0, 63, true);
    }

    private static void halves(int use) {
        int far = 0xABCDEF80;
        for (int frame : new int[] {4, 17, 29, 31}) {
            Rig even = mapped();
            even.entry(3, far, 0, Rig.half(frame, Rig.FREE), 0);
            dueReached(even, use, far + 60, 3, frame * 64 + 60);
            Rig odd = mapped();
            odd.entry(3, far, 0, 0, Rig.half(frame, Rig.FREE));
            dueReached(odd, use, far + 64 + 20, 0, frame * 64 + 20);
        }
    }

    private static Rig withEven(int even) {
        Rig rig = mapped();
        rig.entry(2, 4096, 0, Rig.half(20, even), Rig.half(20, Rig.FREE ^ even));
        return rig;
    }

    private static void refusals(int use) {
        int notValid = use == FETCH ? 3 : use == LOAD ? 1 : 2;
        for (int bits : new int[] {0, 2, 12, 14}) {
            dueRefused(withEven(bits), use, 4100, 0, notValid, true);
            dueRefused(withEven(bits), use, 4100, 7, notValid, true);
        }
        for (int bits : new int[] {1, 3}) {
            dueRefused(withEven(bits), use, 4100, 3, 7, true);
        }
        for (int bits : new int[] {1, 13}) {
            if (use == STORE) {
                dueRefused(withEven(bits), use, 4100, 4, 4, true);
            } else {
                dueReached(withEven(bits), use, 4100, 4, 1284);
            }
        }
        if (use == STORE) {
            dueRefused(withEven(13), use, 4100, 3, 4, true);
        }
        dueReached(withEven(3), use, 4100, 0, 1284);
        dueReached(withEven(15), use, 4100, 3, 1284);
        dueReached(withEven(15), use, 4100, 0, 1284);
    }

    private static void spaces(int use) {
        Rig other = mapped();
        other.entry(1, 4096, 3, Rig.half(20, Rig.FREE), 0);
        dueRefused(other, use, 4096, 3, 63, true);
        Rig own = mapped();
        own.entry(1, 4096, 3, Rig.half(20, Rig.FREE), 0);
        own.entry(2, 4096, 4, Rig.half(21, Rig.FREE), 0);
        own.control(Rig.SPACE, 4);
        dueReached(own, use, 4096, 3, 21 * 64);
        Rig global = mapped();
        global.entry(1, 4096, 3, Rig.half(20, Rig.FREE | Rig.GLOBAL), Rig.GLOBAL);
        dueReached(global, use, 4096, 3, 20 * 64);
        Rig clash = mapped();
        clash.entry(1, 4096, 3, Rig.half(20, Rig.FREE | Rig.GLOBAL), Rig.GLOBAL);
        clash.entry(2, 4096, 0, 0, 0);
        use(clash, use, 4096, 3);
        Check.due("two entries", clash.x.state(), 2);
        Check.due("no exception", clash.code(), 0);
        Check.due("MODE stays", clash.x.control(Rig.MODE), 3);
        Check.due("PLACE stays", clash.x.register(8), use == FETCH ? 4096 : CODE_PAGE);
        Check.due("register stays", clash.x.register(1), 42);
    }

    /** Only an exception 63 changes DIRECT, on its way in and on its way back. */
    private static void backWhileMapped() {
        Rig rig = mapped();
        rig.control(Rig.ENTRY, CODE_PAGE + 64);
        rig.x.load(CODE_PAGE + 64, Rig.op(26, 0, 0, 0));
        rig.x.load(CODE_PAGE, Rig.op(16, 0, 0, 0));
        rig.control(Rig.MODE, 3);
        rig.x.jump(CODE_PAGE);
        rig.x.run(1);
        rig.dueException("a call", 11, CODE_PAGE, 0, 0);
        Check.due("mapped in the handler", rig.x.control(Rig.MODE), 0);
        Check.due("BACK", rig.x.run(1), 1);
        Check.due("mapped after it", rig.x.control(Rig.MODE), 3);
        Check.due("PLACE", rig.x.register(8), CODE_PAGE);
    }

    /** A whole round: the handler fills the buffer, and the instruction is done at the second try. */
    private static void refillAndBack() {
        Rig rig = mapped();
        rig.control(Rig.EVEN, Rig.half(20, Rig.FREE));
        rig.control(Rig.ODD, Rig.half(21, Rig.FREE));
        rig.x.filled(2);
        rig.x.load(0x704, Rig.op(24, 0, 0, 0));
        rig.x.load(0x708, Rig.op(26, 0, 0, 0));
        rig.x.load(1284, 77);
        use(rig, LOAD, 4100, 7);
        rig.dueException("refill", 63, CODE_PAGE, 4100, 4096);
        Check.due("DIRECT in the handler", rig.x.control(Rig.MODE), 8);
        Check.due("the handler", rig.x.run(2), 2);
        Check.due("DIRECT no more", rig.x.control(Rig.MODE), 7);
        Check.due("PLACE", rig.x.register(8), CODE_PAGE);
        Check.due("the pair", rig.x.entry(2, 1), 32);
        Check.due("once more", rig.x.run(1), 1);
        Check.due("it is loaded", rig.x.register(1), 77);
    }
}
