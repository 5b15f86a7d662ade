/** A processor with two levels of privilege, mapped addresses, exceptions and a timer. */
public final class TrapMachine {
    private static final int WORDS = 512;
    private static final int MOST_STEPS = 2000;

    private static final int GOING = 0;
    private static final int RESTING = 1;
    private static final int STOPPED = 2;

    private static final int INTERRUPTED = 0;
    private static final int NO_LOAD = 1;
    private static final int NO_STORE = 2;
    private static final int NO_FETCH = 3;
    private static final int NOT_WRITABLE = 4;
    private static final int NOT_THIS_LEVEL = 7;
    private static final int OUTSIDE = 8;
    private static final int UNALIGNED = 9;
    private static final int CALLED = 11;
    private static final int BROKEN_OFF = 12;
    private static final int UNKNOWN = 13;
    private static final int PRIVILEGED = 14;
    private static final int NOT_MAPPED = 63;

    /** Stands among the negated codes of exceptions, so it is below all of them. */
    private static final int CLASH = -64;

    private static final int TO_FETCH = 0;
    private static final int TO_LOAD = 1;
    private static final int TO_STORE = 2;

    private static final int WITHOUT_WINDOW = 0x0FFFFFFF;

    private final int[] memory = new int[WORDS];
    private final int[] registers = new int[8];
    private final Controls controls = new Controls();
    private final Buffer buffer = new Buffer();
    private int place;
    private boolean linked;
    private int nextFilled;
    private int condition;
    private boolean trapped;

    public TrapMachine() {
        condition = GOING;
    }

    public void load(int address, int word) throws IllegalArgumentException {
        if (!isInMemory(address)) {
            throw new IllegalArgumentException("no word of memory has this address");
        }
        memory[address >>> 2] = word;
    }

    public int word(int address) throws IllegalArgumentException {
        if (!isInMemory(address)) {
            throw new IllegalArgumentException("no word of memory has this address");
        }
        return memory[address >>> 2];
    }

    public void line(int k, boolean up) throws IllegalArgumentException {
        if (k < 0 || k > 3) {
            throw new IllegalArgumentException("the lines are 0 to 3");
        }
        controls.setLine(k, up);
    }

    public void filled(int k) {
        nextFilled = k & 3;
    }

    public void jump(int p) {
        place = p;
        condition = GOING;
    }

    public int run(int n) {
        int most = Math.min(n, MOST_STEPS);
        int done = 0;
        trapped = false;
        while (done < most && condition != STOPPED && !trapped) {
            step();
            done++;
        }
        return done;
    }

    public int state() {
        return condition;
    }

    public int register(int r) throws IllegalArgumentException {
        if (r < 0 || r > 9) {
            throw new IllegalArgumentException("the registers are 0 to 7, 8 is PLACE, 9 LINK");
        }
        if (r == 8) {
            return place;
        }
        if (r == 9) {
            return linked ? 1 : 0;
        }
        return registers[r];
    }

    public int control(int k) throws IllegalArgumentException {
        if (k < 0 || k > Controls.LAST) {
            throw new IllegalArgumentException("the control registers are 0 to 17");
        }
        return controls.get(k);
    }

    public int entry(int e, int what) throws IllegalArgumentException {
        if (e < 0 || e > Buffer.LAST || what < 0 || what > Buffer.ODD) {
            throw new IllegalArgumentException("the entries are 0 to 3, their parts 0 to 5");
        }
        return buffer.get(e, what);
    }

    private static boolean isInMemory(int address) {
        return (address & 3) == 0 && address >>> 2 < WORDS;
    }

    private void step() {
        if (condition == RESTING) {
            if (controls.isAsked()) {
                condition = GOING;
            }
        } else if (controls.isEnabled() && controls.isAsked()) {
            raise(INTERRUPTED);
        } else {
            perform();
        }
        // The step that stops the machine does nothing, so the timer stays as it is.
        if (condition != STOPPED) {
            controls.tick();
        }
    }

    private void perform() {
        int at = find(place, TO_FETCH);
        if (at < 0) {
            fail(at, place);
            return;
        }
        int word = memory[at];
        int code = word >>> 24;
        if (code >= Code.ADD && code <= Code.HIGH_BYTES) {
            calculate(code, word);
        } else if (code == Code.LOAD || code == Code.LOAD_LINKED) {
            loadWord(code, word);
        } else if (code == Code.STORE || code == Code.STORE_IF_LINKED) {
            storeWord(code, word);
        } else if (code >= Code.IF_EQUAL && code <= Code.JUMP) {
            branch(code, word);
        } else if (code == Code.CALL) {
            raise(CALLED);
        } else if (code == Code.BREAK) {
            raise(BROKEN_OFF);
        } else if (code >= Code.GET_CONTROL && code <= Code.REST) {
            performPrivileged(code, word);
        } else {
            raise(UNKNOWN);
        }
    }

    private void performPrivileged(int code, int word) {
        if (controls.level() != 0) {
            raise(PRIVILEGED);
        } else if (code <= Code.CHANGE_BITS) {
            useControl(code, word);
        } else if (code <= Code.FILL) {
            useBuffer(code);
        } else if (code == Code.EMPTY) {
            emptyEntries(word);
        } else if (code == Code.BACK) {
            goBack();
        } else {
            condition = RESTING;
            place += 4;
        }
    }

    private static int byteB(int word) {
        return word >>> 8 & 255;
    }

    private static int byteC(int word) {
        return word & 255;
    }

    private static int imm(int word) {
        return (byte) word;
    }

    private int valueA(int word) {
        return registers[word >>> 16 & 7];
    }

    private int valueB(int word) {
        return registers[word >>> 8 & 7];
    }

    private int valueC(int word) {
        return registers[word & 7];
    }

    private void setA(int word, int value) {
        int a = word >>> 16 & 7;
        if (a != 0) {
            registers[a] = value;
        }
    }

    private void calculate(int code, int word) {
        setA(word, result(code, word));
        place += 4;
    }

    private int result(int code, int word) {
        int b = valueB(word);
        int c = valueC(word);
        switch (code) {
            case Code.ADD:
                return b + c;
            case Code.SUBTRACT:
                return b - c;
            case Code.AND:
                return b & c;
            case Code.OR:
                return b | c;
            case Code.LESS:
                return b < c ? 1 : 0;
            case Code.ADD_IMM:
                return b + imm(word);
            default:
                return 65536 * byteB(word) + 256 * byteC(word);
        }
    }

    private void loadWord(int code, int word) {
        int address = valueB(word) + imm(word);
        int at = find(address, TO_LOAD);
        if (at < 0) {
            fail(at, address);
            return;
        }
        setA(word, memory[at]);
        if (code == Code.LOAD_LINKED) {
            linked = true;
        }
        place += 4;
    }

    private void storeWord(int code, int word) {
        if (code == Code.STORE_IF_LINKED && !linked) {
            setA(word, 0);
            place += 4;
            return;
        }
        int address = valueB(word) + imm(word);
        int at = find(address, TO_STORE);
        if (at < 0) {
            fail(at, address);
            return;
        }
        memory[at] = valueA(word);
        if (code == Code.STORE_IF_LINKED) {
            linked = false;
            setA(word, 1);
        }
        place += 4;
    }

    private void branch(int code, int word) {
        int b = valueB(word);
        int away = 4 * imm(word);
        if (code == Code.JUMP) {
            setA(word, place + 4);
            place = b + away;
        } else {
            place += holds(code, valueA(word), b) ? away : 4;
        }
    }

    private static boolean holds(int code, int a, int b) {
        switch (code) {
            case Code.IF_EQUAL:
                return a == b;
            case Code.IF_NOT_EQUAL:
                return a != b;
            default:
                return a < b;
        }
    }

    private void useControl(int code, int word) {
        int k = byteC(word);
        if (k > Controls.LAST) {
            raise(UNKNOWN);
            return;
        }
        int old = controls.get(k);
        if (code == Code.CHANGE) {
            controls.write(k, valueA(word), -1);
        } else if (code == Code.CHANGE_BITS) {
            controls.write(k, valueA(word), valueB(word));
        }
        setA(word, old);
        place += 4;
    }

    private void goBack() {
        controls.leave();
        place = controls.get(Controls.RETURN);
        linked = false;
    }

    private void useBuffer(int code) {
        int index = controls.get(Controls.INDEX) & 3;
        if (code == Code.SEARCH) {
            searchEntry();
        } else if (code == Code.READ) {
            readEntry(index);
        } else if (code == Code.WRITE) {
            writeEntry(index);
        } else {
            writeEntry(nextFilled);
            nextFilled = nextFilled + 1 & 3;
        }
        place += 4;
    }

    private void searchEntry() {
        int pair = controls.get(Controls.HIGH) >>> 7;
        int e = buffer.find(pair, controls.get(Controls.SPACE), 0);
        if (e < 0) {
            controls.setEmpty(true);
        } else {
            controls.set(Controls.INDEX, e);
        }
    }

    private void readEntry(int e) {
        boolean there = buffer.get(e, Buffer.THERE) == 1;
        controls.setEmpty(!there);
        if (!there) {
            controls.set(Controls.HIGH, 0);
            controls.set(Controls.EVEN, 0);
            controls.set(Controls.ODD, 0);
            return;
        }
        int global = buffer.get(e, Buffer.GLOBAL) == 1 ? Buffer.HALF_GLOBAL : 0;
        controls.set(Controls.HIGH, buffer.get(e, Buffer.PAIR) << 7);
        controls.set(Controls.EVEN, buffer.get(e, Buffer.EVEN) | global);
        controls.set(Controls.ODD, buffer.get(e, Buffer.ODD) | global);
        controls.set(Controls.SPACE, buffer.get(e, Buffer.SPACE));
    }

    private void writeEntry(int e) {
        boolean there = !controls.isEmpty() || controls.code() == NOT_MAPPED;
        buffer.set(e, there, controls.get(Controls.HIGH) >>> 7, controls.get(Controls.SPACE));
        buffer.setHalves(e, controls.get(Controls.EVEN), controls.get(Controls.ODD));
    }

    private void emptyEntries(int word) {
        int kind = byteC(word);
        if (kind > Buffer.LAST_KIND) {
            raise(UNKNOWN);
            return;
        }
        buffer.empty(kind, valueA(word) & 15, valueB(word) >>> 7);
        place += 4;
    }

    /** The word's index in memory; else the code of the exception that is due, negated, or CLASH. */
    private int find(int address, int use) {
        if ((address & 3) != 0) {
            return use == TO_FETCH ? -OUTSIDE : -UNALIGNED;
        }
        int real = address;
        if (!controls.isDirect()) {
            if (!controls.isInWindow(address)) {
                return findMapped(address, use);
            }
            real = address & WITHOUT_WINDOW;
        }
        return isInMemory(real) ? real >>> 2 : -OUTSIDE;
    }

    private int findMapped(int address, int use) {
        int pair = address >>> 7;
        int space = controls.get(Controls.SPACE);
        int e = buffer.find(pair, space, 0);
        if (e < 0) {
            return -NOT_MAPPED;
        }
        if (buffer.find(pair, space, e + 1) >= 0) {
            return CLASH;
        }
        int half = buffer.get(e, (address & 64) == 0 ? Buffer.EVEN : Buffer.ODD);
        if ((half & Buffer.HALF_VALID) == 0) {
            return use == TO_FETCH ? -NO_FETCH : use == TO_LOAD ? -NO_LOAD : -NO_STORE;
        }
        if ((half & Buffer.HALF_LEVEL) == 0 && controls.level() != 0) {
            return -NOT_THIS_LEVEL;
        }
        if (use == TO_STORE && (half & Buffer.HALF_WRITABLE) == 0) {
            return -NOT_WRITABLE;
        }
        int frame = half >>> 6 & 31;
        return frame * 16 + (address >>> 2 & 15);
    }

    /** Does what find asked for instead of a word. */
    private void fail(int found, int address) {
        if (found == CLASH) {
            condition = STOPPED;
            return;
        }
        int code = -found;
        controls.set(Controls.ADDRESS, address);
        if (code != OUTSIDE && code != UNALIGNED) {
            controls.set(Controls.HIGH, address & -128);
        }
        raise(code);
    }

    private void raise(int code) {
        controls.enter(code, place);
        if (code == NOT_MAPPED) {
            controls.setDirect();
            place = controls.get(Controls.REFILL);
        } else {
            place = controls.get(Controls.ENTRY);
        }
        trapped = true;
    }

    /** The codes of the instructions. */
    private static final class Code {
        private static final int ADD = 1;
        private static final int SUBTRACT = 2;
        private static final int AND = 3;
        private static final int OR = 4;
        private static final int LESS = 5;
        private static final int ADD_IMM = 6;
        private static final int HIGH_BYTES = 7;
        private static final int LOAD = 8;
        private static final int STORE = 9;
        private static final int LOAD_LINKED = 10;
        private static final int STORE_IF_LINKED = 11;
        private static final int IF_EQUAL = 12;
        private static final int IF_NOT_EQUAL = 13;
        private static final int JUMP = 15;
        private static final int CALL = 16;
        private static final int BREAK = 17;
        private static final int GET_CONTROL = 18;
        private static final int CHANGE = 19;
        private static final int CHANGE_BITS = 20;
        private static final int SEARCH = 21;
        private static final int READ = 22;
        private static final int WRITE = 23;
        private static final int FILL = 24;
        private static final int EMPTY = 25;
        private static final int BACK = 26;
        private static final int REST = 27;

        private Code() {
        }
    }

    /** The control registers, and the timer that two of them are. */
    private static final class Controls {
        private static final int MODE = 0;
        private static final int BEFORE = 1;
        private static final int MASK = 2;
        private static final int STATUS = 3;
        private static final int RETURN = 4;
        private static final int ADDRESS = 5;
        private static final int ENTRY = 6;
        private static final int INDEX = 7;
        private static final int HIGH = 8;
        private static final int EVEN = 9;
        private static final int ODD = 10;
        private static final int SPACE = 11;
        private static final int TIME = 14;
        private static final int REST = 15;
        private static final int REFILL = 16;
        private static final int WINDOW = 17;
        private static final int LAST = 17;

        private static final int LEVEL = 3;
        private static final int ENABLED = 4;
        private static final int DIRECT = 8;
        private static final int TIMER_ASKS = 16;
        private static final int ASKING = 31;
        private static final int EMPTY = 0x80000000;
        private static final int ON = 1;
        private static final int AGAIN = 2;
        private static final int START = 0xFFFC;

        /** By register: the bits that count when it is written. */
        private static final int[] COUNTING = {
            0xF, 0x7, 0x1F, 0x10, -1, -1, -4, 0x80000003, -128,
            0x7DF, 0x7DF, 0xF, -1, -1, 0xFFFF, 0, -4, 0xF0000009
        };

        /** By register: the bits of a level, which are all set as soon as one is. */
        private static final int[] LEVEL_BITS = {
            3, 3, 0, 0, 0, 0, 0, 0, 0, 12, 12, 0, 0, 0, 0, 0, 0, 0
        };

        private final int[] values = new int[LAST + 1];

        private Controls() {
            values[MODE] = DIRECT;
        }

        private int get(int k) {
            return values[k];
        }

        private void set(int k, int value) {
            values[k] = value;
        }

        /** Writes as a program does: of the value, only those bits that are among these and count. */
        private void write(int k, int value, int bits) {
            int counting = bits & COUNTING[k];
            if (k == STATUS) {
                values[STATUS] &= ~(value & counting);
                return;
            }
            int merged = values[k] & ~counting | value & counting;
            if ((merged & LEVEL_BITS[k]) != 0) {
                merged |= LEVEL_BITS[k];
            }
            values[k] = merged;
            if (k == TIME) {
                values[REST] = merged & START;
            }
        }

        private int level() {
            return values[MODE] & LEVEL;
        }

        private boolean isEnabled() {
            return (values[MODE] & ENABLED) != 0;
        }

        private boolean isDirect() {
            return (values[MODE] & DIRECT) != 0;
        }

        private void setDirect() {
            values[MODE] |= DIRECT;
        }

        private boolean isEmpty() {
            return (values[INDEX] & EMPTY) != 0;
        }

        private void setEmpty(boolean empty) {
            values[INDEX] = values[INDEX] & ~EMPTY | (empty ? EMPTY : 0);
        }

        private int code() {
            return values[STATUS] >>> 16 & 63;
        }

        private void setLine(int k, boolean up) {
            int bit = 1 << k;
            values[STATUS] = values[STATUS] & ~bit | (up ? bit : 0);
        }

        private boolean isAsked() {
            return (values[MASK] & values[STATUS] & ASKING) != 0;
        }

        private boolean isInWindow(int address) {
            int window = values[WINDOW];
            boolean open = (window >>> (values[MODE] & LEVEL) & 1) != 0;
            return open && (address ^ window) >>> 28 == 0;
        }

        private void enter(int code, int place) {
            values[BEFORE] = values[MODE] & (LEVEL | ENABLED);
            values[MODE] &= ~(LEVEL | ENABLED);
            values[RETURN] = place;
            values[STATUS] = values[STATUS] & ASKING | code << 16;
        }

        private void leave() {
            values[MODE] = values[MODE] & DIRECT | values[BEFORE];
            if (code() == NOT_MAPPED) {
                values[MODE] &= ~DIRECT;
            }
        }

        private void tick() {
            int time = values[TIME];
            if ((time & ON) == 0 || values[REST] == 0) {
                return;
            }
            values[REST]--;
            if (values[REST] == 0) {
                values[STATUS] |= TIMER_ASKS;
                if ((time & AGAIN) != 0) {
                    values[REST] = time & START;
                }
            }
        }
    }

    /** The page pairs that are mapped: a row an entry, its parts numbered as the face numbers them. */
    private static final class Buffer {
        private static final int LAST = 3;
        private static final int THERE = 0;
        private static final int PAIR = 1;
        private static final int SPACE = 2;
        private static final int GLOBAL = 3;
        private static final int EVEN = 4;
        private static final int ODD = 5;

        private static final int HALF_VALID = 1;
        private static final int HALF_WRITABLE = 2;
        private static final int HALF_LEVEL = 12;
        private static final int HALF_GLOBAL = 16;

        private static final int ALL = 0;
        private static final int GLOBAL_ONES = 1;
        private static final int OTHERS = 2;
        private static final int OTHERS_OF_SPACE = 3;
        private static final int LAST_KIND = 4;

        private final int[][] parts = new int[LAST + 1][ODD + 1];

        private Buffer() {
        }

        private int get(int e, int what) {
            return parts[e][what];
        }

        private void set(int e, boolean there, int pair, int space) {
            parts[e][THERE] = there ? 1 : 0;
            parts[e][PAIR] = pair;
            parts[e][SPACE] = space;
        }

        private void setHalves(int e, int even, int odd) {
            parts[e][GLOBAL] = (even & odd & HALF_GLOBAL) != 0 ? 1 : 0;
            parts[e][EVEN] = even & ~HALF_GLOBAL;
            parts[e][ODD] = odd & ~HALF_GLOBAL;
        }

        /** The lowest entry, not below the first one given, that maps the pair in the space; or -1. */
        private int find(int pair, int space, int first) {
            for (int e = first; e <= LAST; e++) {
                int[] entry = parts[e];
                boolean ours = entry[GLOBAL] == 1 || entry[SPACE] == space;
                if (entry[THERE] == 1 && entry[PAIR] == pair && ours) {
                    return e;
                }
            }
            return -1;
        }

        private void empty(int kind, int space, int pair) {
            for (int e = 0; e <= LAST; e++) {
                if (isOfKind(e, kind, space, pair)) {
                    parts[e][THERE] = 0;
                }
            }
        }

        private boolean isOfKind(int e, int kind, int space, int pair) {
            boolean global = parts[e][GLOBAL] == 1;
            boolean sameSpace = parts[e][SPACE] == space;
            switch (kind) {
                case ALL:
                    return true;
                case GLOBAL_ONES:
                    return global;
                case OTHERS:
                    return !global;
                case OTHERS_OF_SPACE:
                    return !global && sameSpace;
                default:
                    return !global && sameSpace && parts[e][PAIR] == pair;
            }
        }
    }
}
