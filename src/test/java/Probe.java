/**
 * Tries addresses in each way in which one is looked at: by PLACE, and by the four instructions that load or store.
 * Those stand at HOME, a pair that entry 0 maps to itself for all; register 1 is 42.
 */
final class Probe {
    static final int FETCH = 0;
    static final int LOAD = 8;
    static final int STORE = 9;
    static final int LOAD_LINKED = 10;
    static final int STORE_IF_LINKED = 11;
    static final int[] USES = {FETCH, LOAD, STORE, LOAD_LINKED, STORE_IF_LINKED};

    static final int HOME = 1920;
    /** Stands in ADDRESS and HIGH before an address is tried. */
    static final int MARK = 0x5A5A5A80;
    private static final int OWN = 42;
    private static final int FOUND = 77;

    final Rig rig = new Rig();
    final TrapMachine x = rig.x;

    Probe() {
        int all = Rig.FREE | Rig.GLOBAL;
        rig.entry(0, HOME, 0, Rig.half(30, all), Rig.half(31, all));
        rig.control(Rig.ENTRY, 0x700);
        rig.control(Rig.REFILL, 0x704);
        rig.set(1, OWN);
    }

    static boolean isStore(int use) {
        return use == STORE || use == STORE_IF_LINKED;
    }

    /** The document's code for a half that is not VALID. */
    static int notValid(int use) {
        return use == FETCH ? 3 : isStore(use) ? 2 : 1;
    }

    static int notAligned(int use) {
        return use == FETCH ? 8 : 9;
    }

    private static int place(int use, int address) {
        return use == FETCH ? address : HOME;
    }

    private static String name(int use, int address, int mode) {
        return "use " + use + " of " + Integer.toHexString(address) + " in MODE " + mode;
    }

    /** The step in which it stands next looks at the address. */
    void prepare(int use, int address, int mode) {
        if (use == STORE_IF_LINKED) {
            rig.exec(LOAD_LINKED, 6, 0, 0);
        }
        rig.control(Rig.ADDRESS, MARK);
        rig.control(Rig.HIGH, MARK);
        rig.set(2, address);
        rig.control(Rig.MODE, mode);
        x.load(HOME, Rig.op(use, 1, 2, 0));
        x.jump(place(use, address));
    }

    /** The address leads to the real one. */
    void dueReached(int use, int address, int mode, int real) {
        prepare(use, address, mode);
        x.load(real, use == FETCH ? Rig.op(6, 1, 0, FOUND) : FOUND);
        String what = name(use, address, mode);
        Check.due(what + ": steps", x.run(1), 1);
        Check.due(what + ": code", rig.code(), 0);
        Check.due(what + ": PLACE", x.register(8), place(use, address) + 4);
        int register = use == STORE_IF_LINKED ? 1 : use == STORE ? OWN : FOUND;
        Check.due(what + ": register", x.register(1), register);
        Check.due(what + ": LINK", x.register(9), use == LOAD_LINKED ? 1 : 0);
        if (isStore(use)) {
            Check.due(what + ": word", x.word(real), OWN);
        }
        dueMarks(what, MARK, MARK);
    }

    /** The address leads to an exception, with ADDRESS, and with HIGH or without. */
    void dueRefused(int use, int address, int mode, int code, boolean withHigh) {
        prepare(use, address, mode);
        String what = name(use, address, mode);
        Check.due(what + ": steps", x.run(1), 1);
        rig.dueException(what, code, place(use, address), address, withHigh ? address & -128 : MARK);
        Check.due(what + ": BEFORE", x.control(Rig.BEFORE), mode & 7);
        Check.due(what + ": MODE", x.control(Rig.MODE), code == 63 ? 8 : mode & 8);
        dueUntouched(what, use);
        Check.due(what + ": state", x.state(), 0);
    }

    /** The address stops the machine. */
    void dueStopped(int use, int address, int mode) {
        prepare(use, address, mode);
        String what = name(use, address, mode);
        Check.due(what + ": steps", x.run(5), 1);
        Check.due(what + ": state", x.state(), 2);
        Check.due(what + ": code", rig.code(), 0);
        Check.due(what + ": RETURN", x.control(Rig.RETURN), 0);
        Check.due(what + ": MODE", x.control(Rig.MODE), mode);
        Check.due(what + ": PLACE", x.register(8), place(use, address));
        dueMarks(what, MARK, MARK);
        dueUntouched(what, use);
    }

    private void dueMarks(String what, int address, int high) {
        Check.due(what + ": ADDRESS", x.control(Rig.ADDRESS), address);
        Check.due(what + ": HIGH", x.control(Rig.HIGH), high);
    }

    private void dueUntouched(String what, int use) {
        Check.due(what + ": register", x.register(1), OWN);
        Check.due(what + ": LINK", x.register(9), use == STORE_IF_LINKED ? 1 : 0);
    }
}
