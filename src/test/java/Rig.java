/**
 * A machine with short ways to bring it into a state. It keeps its own scratch words at 0 to 8;
 * set and control need a machine that is DIRECT and at level 0, and use register 7.
 */
final class Rig {
    static final int MODE = 0;
    static final int BEFORE = 1;
    static final int MASK = 2;
    static final int STATUS = 3;
    static final int RETURN = 4;
    static final int ADDRESS = 5;
    static final int ENTRY = 6;
    static final int INDEX = 7;
    static final int HIGH = 8;
    static final int EVEN = 9;
    static final int ODD = 10;
    static final int SPACE = 11;
    static final int KEPT = 12;
    static final int TIME = 14;
    static final int REST = 15;
    static final int REFILL = 16;
    static final int WINDOW = 17;
    static final int EMPTY_BIT = 0x80000000;
    static final int TIMER_BIT = 16;
    /** VALID, WRITABLE and LEVEL 3: what allows all. */
    static final int FREE = 15;
    static final int GLOBAL = 16;
    /** Where exec and control leave PLACE, if their instruction goes on behind itself. */
    static final int BEHIND = 12;
    /** Where spin goes round. */
    static final int LOOP = 1984;

    final TrapMachine x = new TrapMachine();

    static int op(int code, int a, int b, int c) {
        return code << 24 | (a & 255) << 16 | (b & 255) << 8 | c & 255;
    }

    static int half(int frame, int bits) {
        return frame << 6 | bits;
    }

    /** Does one instruction, at 8. */
    int exec(int code, int a, int b, int c) {
        return execAt(8, 8, op(code, a, b, c));
    }

    /** Puts the word at a real address and does it under another one. */
    int execAt(int real, int place, int word) {
        x.load(real, word);
        x.jump(place);
        return x.run(1);
    }

    void set(int r, int value) {
        x.load(0, value);
        execAt(4, 4, op(8, r, 0, 0));
    }

    void control(int k, int value) {
        set(7, value);
        exec(19, 7, 0, k);
    }

    /** Instruction 20: writes those bits of the value to a control register; uses register 6, too. */
    void controlBits(int k, int value, int bits) {
        set(6, bits);
        set(7, value);
        exec(20, 7, 6, k);
    }

    /** Writes an entry whole and makes it there. */
    void entry(int e, int address, int space, int even, int odd) {
        int spaceBefore = x.control(SPACE);
        control(INDEX, e);
        control(HIGH, address);
        control(SPACE, space);
        control(EVEN, even);
        control(ODD, odd);
        exec(23, 0, 0, 0);
        control(SPACE, spaceBefore);
        control(HIGH, 0);
    }

    /** Does steps that change nothing but the timer. */
    int spin(int steps) {
        x.load(LOOP, op(12, 0, 0, 0));
        x.jump(LOOP);
        return x.run(steps);
    }

    /** Sets the timer's bit, and leaves the timer as it is at first. */
    void ring() {
        control(TIME, 4 | 1);
        spin(3);
        control(TIME, 0);
    }

    int code() {
        return x.control(STATUS) >>> 16;
    }

    /** What an exception leaves behind. */
    void dueException(String what, int code, int back, int address, int high) {
        Check.due(what + ": code", code(), code);
        Check.due(what + ": RETURN", x.control(RETURN), back);
        Check.due(what + ": ADDRESS", x.control(ADDRESS), address);
        Check.due(what + ": HIGH", x.control(HIGH), high);
        Check.due(what + ": PLACE", x.register(8), x.control(code == 63 ? REFILL : ENTRY));
    }

    /** The parts of an entry, as many as are given. */
    void dueEntry(String what, int e, int... parts) {
        for (int part = 0; part < parts.length; part++) {
            Check.due(what + ": entry " + e + ", " + part, x.entry(e, part), parts[part]);
        }
    }
}
