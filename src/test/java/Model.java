/**
 * The document once more, written apart from the program and in another way: every bit is a field of its own, and a
 * thrown Fault leads out of an instruction. RandomCallsTest compares the two.
 */
final class Model {
    /** Leads out of an instruction; code -1 is the stop. */
    static final class Fault extends Exception {
        private static final long serialVersionUID = 1L;
        final int code;
        final boolean withAddress;
        final boolean withHigh;
        final int address;

        Fault(int code) {
            this(code, 0, false, false);
        }

        Fault(int code, int address, boolean withAddress, boolean withHigh) {
            super(null, null, false, false);
            this.code = code;
            this.address = address;
            this.withAddress = withAddress;
            this.withHigh = withHigh;
        }
    }

    static final class Half {
        boolean valid;
        boolean writable;
        boolean global;
        int level;
        int frame;

        void write(int value) {
            valid = bit(value, 0);
            writable = bit(value, 1);
            level = (value >> 2) % 4 == 0 ? 0 : 3;
            global = bit(value, 4);
            frame = (value / 64) % 32;
        }

        int show(boolean withGlobal) {
            return (valid ? 1 : 0) + (writable ? 2 : 0) + 4 * level + (withGlobal ? 16 : 0) + 64 * frame;
        }

        void copy(Half from) {
            write(from.show(from.global));
        }
    }

    static final class Entry {
        boolean there;
        long pair;
        int space;
        boolean global;
        final Half even = new Half();
        final Half odd = new Half();
    }

    final int[] memory = new int[512];
    final int[] r = new int[8];
    final Entry[] entries = {new Entry(), new Entry(), new Entry(), new Entry()};
    int place;
    boolean link;
    boolean rests;
    boolean stopped;
    int filled;

    int level;
    boolean enabled;
    boolean direct = true;
    int levelBefore;
    boolean enabledBefore;
    final boolean[] mask = new boolean[5];
    final boolean[] asks = new boolean[5];
    int code;
    int back;
    int address;
    int entry;
    int index;
    boolean empty;
    long high;
    final Half even = new Half();
    final Half odd = new Half();
    int space;
    final int[] kept = new int[2];
    boolean on;
    boolean again;
    int start;
    int rest;
    int refill;
    boolean window0;
    boolean window3;
    long window;

    static boolean bit(int value, int k) {
        return (value >>> k) % 2 != 0;
    }

    static long unsigned(int value) {
        return value & 0xFFFFFFFFL;
    }

    int control(int k) {
        int sum = 0;
        switch (k) {
            case 0:
                return level + (enabled ? 4 : 0) + (direct ? 8 : 0);
            case 1:
                return levelBefore + (enabledBefore ? 4 : 0);
            case 2:
                for (int i = 0; i < 5; i++) {
                    sum += mask[i] ? 1 << i : 0;
                }
                return sum;
            case 3:
                for (int i = 0; i < 5; i++) {
                    sum += asks[i] ? 1 << i : 0;
                }
                return sum + 65536 * code;
            case 4:
                return back;
            case 5:
                return address;
            case 6:
                return entry;
            case 7:
                return index + (empty ? Integer.MIN_VALUE : 0);
            case 8:
                return (int) (high * 128);
            case 9:
                return even.show(even.global);
            case 10:
                return odd.show(odd.global);
            case 11:
                return space;
            case 12:
            case 13:
                return kept[k - 12];
            case 14:
                return (on ? 1 : 0) + (again ? 2 : 0) + start;
            case 15:
                return rest;
            case 16:
                return refill;
            default:
                return (int) (window * 0x10000000L) + (window0 ? 1 : 0) + (window3 ? 8 : 0);
        }
    }

    /** The whole register is written. */
    void writeControl(int k, int value) {
        int written = value % 4 == 0 ? 0 : 3;
        switch (k) {
            case 0:
                level = written;
                enabled = bit(value, 2);
                direct = bit(value, 3);
                break;
            case 1:
                levelBefore = written;
                enabledBefore = bit(value, 2);
                break;
            case 2:
                for (int i = 0; i < 5; i++) {
                    mask[i] = bit(value, i);
                }
                break;
            case 3:
                if (bit(value, 4)) {
                    asks[4] = false;
                }
                break;
            case 4:
                back = value;
                break;
            case 5:
                address = value;
                break;
            case 6:
                entry = Math.floorDiv(value, 4) * 4;
                break;
            case 7:
                index = Math.floorMod(value, 4);
                empty = value < 0;
                break;
            case 8:
                high = unsigned(value) / 128;
                break;
            case 9:
                even.write(value & 0x7FFFFFFF);
                break;
            case 10:
                odd.write(value & 0x7FFFFFFF);
                break;
            case 11:
                space = Math.floorMod(value, 16);
                break;
            case 12:
            case 13:
                kept[k - 12] = value;
                break;
            case 14:
                on = bit(value, 0);
                again = bit(value, 1);
                start = Math.floorMod(value, 65536) / 4 * 4;
                rest = start;
                break;
            case 15:
                break;
            case 16:
                refill = Math.floorDiv(value, 4) * 4;
                break;
            default:
                window0 = bit(value, 0);
                window3 = bit(value, 3);
                window = unsigned(value) / 0x10000000L;
        }
    }

    int entryPart(int e, int what) {
        Entry it = entries[e];
        int[] parts = {
            it.there ? 1 : 0, (int) it.pair, it.space, it.global ? 1 : 0, it.even.show(false), it.odd.show(false)
        };
        return parts[what];
    }

    boolean asked() {
        boolean any = false;
        for (int i = 0; i < 5; i++) {
            any |= mask[i] && asks[i];
        }
        return any;
    }

    int run(int n) {
        int done = 0;
        while (done < n && done < 2000 && !stopped) {
            done++;
            Fault fault = step();
            if (fault != null) {
                return done;
            }
        }
        return done;
    }

    private Fault step() {
        Fault fault = null;
        if (rests) {
            rests = !asked();
        } else {
            try {
                if (enabled && asked()) {
                    throw new Fault(0);
                }
                instruction(memory[look(place, 'f') / 4]);
            } catch (Fault f) {
                fault = f;
                if (f.code == -1) {
                    stopped = true;
                    return f;
                }
                exception(f);
            }
        }
        if (on && rest > 0) {
            rest--;
            if (rest == 0) {
                asks[4] = true;
                rest = again ? start : 0;
            }
        }
        return fault;
    }

    private void exception(Fault f) {
        levelBefore = level;
        enabledBefore = enabled;
        level = 0;
        enabled = false;
        back = place;
        code = f.code;
        place = f.code == 63 ? refill : entry;
        direct |= f.code == 63;
        if (f.withAddress) {
            address = f.address;
        }
        if (f.withHigh) {
            high = unsigned(f.address) / 128;
        }
    }

    private boolean suits(Entry it, long pair) {
        return it.there && it.pair == pair && (it.global || it.space == space);
    }

    private int look(int at, char how) throws Fault {
        long wide = unsigned(at);
        if (wide % 4 != 0) {
            throw new Fault(how == 'f' ? 8 : 9, at, true, false);
        }
        long real = wide;
        if (!direct) {
            if (wide / 0x10000000L == window && (level == 0 ? window0 : window3)) {
                real = wide % 0x10000000L;
            } else {
                Entry found = null;
                for (Entry it : entries) {
                    if (suits(it, wide / 128)) {
                        if (found != null) {
                            throw new Fault(-1);
                        }
                        found = it;
                    }
                }
                if (found == null) {
                    throw new Fault(63, at, true, true);
                }
                Half half = wide % 128 < 64 ? found.even : found.odd;
                if (!half.valid) {
                    throw new Fault(how == 'f' ? 3 : how == 'l' ? 1 : 2, at, true, true);
                }
                if (half.level < level) {
                    throw new Fault(7, at, true, true);
                }
                if (how == 's' && !half.writable) {
                    throw new Fault(4, at, true, true);
                }
                real = half.frame * 64 + wide % 64;
            }
        }
        if (real > 2044) {
            throw new Fault(8, at, true, false);
        }
        return (int) real;
    }

    private void set(int k, int value) {
        r[k] = k == 0 ? 0 : value;
    }

    private void instruction(int word) throws Fault {
        int op = (int) (unsigned(word) / 16777216);
        int a = word / 65536 & 7;
        if (word < 0) {
            a = (int) (unsigned(word) / 65536 % 8);
        }
        int byteB = (int) (unsigned(word) / 256 % 256);
        int byteC = (int) (unsigned(word) % 256);
        int b = byteB % 8;
        int c = byteC % 8;
        int imm = byteC > 127 ? byteC - 256 : byteC;
        int next = place + 4;
        int old;
        if (op >= 18 && op <= 27 && level == 3) {
            throw new Fault(14);
        }
        switch (op) {
            case 1 -> set(a, r[b] + r[c]);
            case 2 -> set(a, r[b] - r[c]);
            case 3 -> set(a, r[b] & r[c]);
            case 4 -> set(a, r[b] | r[c]);
            case 5 -> set(a, r[b] < r[c] ? 1 : 0);
            case 6 -> set(a, r[b] + imm);
            case 7 -> set(a, 65536 * byteB + 256 * byteC);
            case 8 -> set(a, memory[look(r[b] + imm, 'l') / 4]);
            case 9 -> memory[look(r[b] + imm, 's') / 4] = r[a];
            case 10 -> {
                set(a, memory[look(r[b] + imm, 'l') / 4]);
                link = true;
            }
            case 11 -> {
                if (link) {
                    memory[look(r[b] + imm, 's') / 4] = r[a];
                }
                set(a, link ? 1 : 0);
                link = false;
            }
            case 12 -> next = r[a] == r[b] ? place + 4 * imm : next;
            case 13 -> next = r[a] != r[b] ? place + 4 * imm : next;
            case 14 -> next = r[a] < r[b] ? place + 4 * imm : next;
            case 15 -> {
                next = r[b] + 4 * imm;
                set(a, place + 4);
            }
            case 16 -> throw new Fault(11);
            case 17 -> throw new Fault(12);
            case 18, 19, 20 -> {
                if (byteC > 17) {
                    throw new Fault(13);
                }
                old = control(byteC);
                if (op == 19) {
                    writeControl(byteC, r[a]);
                } else if (op == 20 && byteC == 3) {
                    writeControl(3, r[a] & r[b]);
                } else if (op == 20) {
                    writeControl(byteC, (r[a] & r[b]) + (old & ~r[b]));
                }
                set(a, old);
            }
            case 21, 22, 23, 24 -> bufferInstruction(op);
            case 25 -> emptyInstruction(byteC, Math.floorMod(r[a], 16), unsigned(r[b]) / 128);
            case 26 -> {
                next = back;
                level = levelBefore;
                enabled = enabledBefore;
                link = false;
                direct &= code != 63;
            }
            case 27 -> rests = true;
            default -> throw new Fault(13);
        }
        place = next;
    }

    private void bufferInstruction(int op) {
        Entry it = entries[op == 24 ? filled : index];
        if (op == 21) {
            empty = true;
            for (int e = 3; e >= 0; e--) {
                if (suits(entries[e], high)) {
                    empty = false;
                    index = e;
                }
            }
        } else if (op == 22 && it.there) {
            high = it.pair;
            even.copy(it.even);
            odd.copy(it.odd);
            even.global = it.global;
            odd.global = it.global;
            space = it.space;
            empty = false;
        } else if (op == 22) {
            high = 0;
            even.write(0);
            odd.write(0);
            empty = true;
        } else {
            it.pair = high;
            it.even.copy(even);
            it.odd.copy(odd);
            it.space = space;
            it.global = even.global && odd.global;
            it.there = !empty || code == 63;
            if (op == 24) {
                filled = (filled + 1) % 4;
            }
        }
    }

    private void emptyInstruction(int kind, int ofSpace, long ofPair) throws Fault {
        if (kind > 4) {
            throw new Fault(13);
        }
        for (Entry it : entries) {
            boolean gone = kind == 0 || it.global == (kind == 1);
            if (kind >= 3) {
                gone &= it.space == ofSpace;
            }
            if (kind == 4) {
                gone &= it.pair == ofPair;
            }
            it.there &= !gone;
        }
    }
}
