/** The terms: how an address is looked at, by PLACE and by each instruction that loads or stores. */
public final class TermsAddressTest {
    private static final boolean WITH_HIGH = true;
    private static final boolean WITHOUT_HIGH = false;
    private static final int AT = 0x345000;

    public static void main(String[] args) {
        Check.sentence("if it is no multiple of 4: exception 9 (8 for PLACE), with ADDRESS", TermsAddressTest::notAligned);
        Check.sentence("If DIRECT, it stands as it is", TermsAddressTest::direct);
        Check.sentence("Else if its bits 28 to 31 are those of WINDOW", TermsAddressTest::bitsOfWindow);
        Check.sentence("and WINDOW has the bit of the level: without these four", TermsAddressTest::levelsOfWindow);
        Check.sentence("Else the entries", TermsAddressTest::windowComesFirst);
        Check.sentence("entries that are there", TermsAddressTest::entriesThere);
        Check.sentence("have its pair", TermsAddressTest::entriesOfPair);
        Check.sentence("and are GLOBAL or have SPACE", TermsAddressTest::entriesOfSpace);
        Check.sentence("two: the machine STOPS", TermsAddressTest::twoEntries);
        Check.sentence("none: exception 63, with ADDRESS and HIGH", TermsAddressTest::noEntry);
        Check.sentence("one: its half by bit 6", TermsAddressTest::halfByBitSix);
        Check.sentence("not VALID: exception 3 (for PLACE), 1 (load) or 2 (store)", TermsAddressTest::notValid);
        Check.sentence("its level is 0 and the level is 3: 7", TermsAddressTest::notItsLevel);
        Check.sentence("a store, and not WRITABLE: 4", TermsAddressTest::notWritable);
        Check.sentence("(all with ADDRESS and HIGH)", TermsAddressTest::withAddressAndHigh);
        Check.sentence("else FRAME * 64 + the bits 0 to 5", TermsAddressTest::frames);
        Check.sentence("an address not in memory (as an unsigned number): exception 8, with ADDRESS",
            TermsAddressTest::notInMemory);
        Check.end();
    }

    private static void notAligned() {
        for (int use : Probe.USES) {
            int code = Probe.notAligned(use);
            for (int address : new int[] {1, 2, 3, 65, 2046, 2047, 2049, -1, -2, -3, 0x80000001, 0x7FFFFFFF}) {
                new Probe().dueRefused(use, address, 8, code, WITHOUT_HIGH);
                new Probe().dueRefused(use, address, 15, code, WITHOUT_HIGH);
                new Probe().dueRefused(use, address, 0, code, WITHOUT_HIGH);
                new Probe().dueRefused(use, address, 7, code, WITHOUT_HIGH);
            }
            windowed(0x90000009).dueRefused(use, 0x90000041, 3, code, WITHOUT_HIGH);
            twice(Rig.FREE).dueRefused(use, AT + 2, 3, code, WITHOUT_HIGH);
            once(0).dueRefused(use, AT + 3, 3, code, WITHOUT_HIGH);
        }
    }

    private static Probe windowed(int window) {
        Probe probe = new Probe();
        probe.rig.control(Rig.WINDOW, window);
        return probe;
    }

    /** The pair of AT is mapped once, both halves alike and with frame 20. */
    private static Probe once(int bits) {
        Probe probe = new Probe();
        probe.rig.entry(1, AT, 0, Rig.half(20, bits), Rig.half(20, bits));
        return probe;
    }

    private static Probe twice(int bits) {
        Probe probe = once(bits);
        probe.rig.entry(3, AT, 0, Rig.half(21, bits), Rig.half(21, bits));
        return probe;
    }

    private static void direct() {
        for (int use : Probe.USES) {
            for (int level = 0; level <= 3; level += 3) {
                Probe mapped = new Probe();
                mapped.rig.entry(1, 1024, 0, Rig.half(20, 0), Rig.half(20, 0));
                mapped.dueReached(use, 1024, 8 | level, 1024);
                Probe twice = new Probe();
                twice.rig.entry(1, 1024, 0, Rig.half(20, Rig.FREE), 0);
                twice.rig.entry(2, 1024, 0, Rig.half(21, Rig.FREE), 0);
                twice.dueReached(use, 1024, 8 | level, 1024);
                windowed(0x90000009).dueRefused(use, 0x90000400, 8 | level, 8, WITHOUT_HIGH);
                windowed(0x00000009).dueReached(use, 0x400, 8 | level, 0x400);
            }
        }
    }

    private static void bitsOfWindow() {
        for (int top = 0; top < 16; top++) {
            for (int other = 0; other < 16; other++) {
                Probe probe = windowed(top << 28 | 9);
                int address = other << 28 | 0x400;
                if (top == other) {
                    probe.dueReached(Probe.LOAD, address, 3, 0x400);
                } else {
                    probe.dueRefused(Probe.LOAD, address, 3, 63, WITH_HIGH);
                }
            }
        }
        for (int use : Probe.USES) {
            windowed(0xF0000009).dueReached(use, 0xF00007FC, 3, 0x7FC);
            windowed(0xF0000009).dueReached(use, 0xF000000C, 0, 0xC);
            windowed(0x80000009).dueReached(use, 0x80000400, 0, 0x400);
            windowed(0x00000009).dueReached(use, 0x400, 3, 0x400);
            windowed(0x80000009).dueRefused(use, 0x400, 3, 63, WITH_HIGH);
            windowed(0x10000009).dueRefused(use, 0x0FFFFFFC, 0, 63, WITH_HIGH);
            windowed(0x10000009).dueRefused(use, 0x20000000, 0, 63, WITH_HIGH);
        }
    }

    private static void levelsOfWindow() {
        for (int use : Probe.USES) {
            for (int top : new int[] {0, 0x70000000, 0x80000000}) {
                int address = top | 0x440;
                windowed(top | 1).dueReached(use, address, 0, 0x440);
                windowed(top | 1).dueRefused(use, address, 3, 63, WITH_HIGH);
                windowed(top | 8).dueReached(use, address, 3, 0x440);
                windowed(top | 8).dueRefused(use, address, 0, 63, WITH_HIGH);
                windowed(top | 9).dueReached(use, address, 0, 0x440);
                windowed(top | 9).dueReached(use, address, 3, 0x440);
                windowed(top).dueRefused(use, address, 0, 63, WITH_HIGH);
                windowed(top).dueRefused(use, address, 3, 63, WITH_HIGH);
            }
        }
    }

    private static void windowComesFirst() {
        for (int use : Probe.USES) {
            Probe probe = windowed(9);
            probe.rig.entry(1, 0x400, 0, Rig.half(20, Rig.FREE), 0);
            probe.dueReached(use, 0x400, 3, 0x400);
            Probe notValid = windowed(9);
            notValid.rig.entry(1, 0x400, 0, 0, 0);
            notValid.dueReached(use, 0x400, 3, 0x400);
            Probe twice = windowed(9);
            twice.rig.entry(1, 0x400, 0, Rig.half(20, Rig.FREE), 0);
            twice.rig.entry(2, 0x400, 0, Rig.half(21, Rig.FREE), 0);
            twice.dueReached(use, 0x400, 0, 0x400);
            Probe closed = windowed(1);
            closed.rig.entry(1, 0x400, 0, Rig.half(20, Rig.FREE), 0);
            closed.dueReached(use, 0x400, 3, 20 * 64);
        }
    }

    private static void entriesThere() {
        for (int use : Probe.USES) {
            for (int e = 1; e <= 3; e++) {
                Probe probe = new Probe();
                probe.rig.entry(e, AT, 0, Rig.half(20, Rig.FREE), 0);
                probe.dueReached(use, AT, 3, 20 * 64);
                Probe gone = new Probe();
                gone.rig.entry(e, AT, 0, Rig.half(20, Rig.FREE), 0);
                gone.rig.exec(25, 0, 0, 2);
                gone.dueRefused(use, AT, 3, 63, WITH_HIGH);
            }
            twiceButOne(use);
        }
    }

    /** Two entries would fit, but one of them is there no more. */
    private static void twiceButOne(int use) {
        Probe probe = once(Rig.FREE);
        probe.rig.entry(2, AT, 0, Rig.half(21, Rig.FREE), 0);
        probe.rig.control(Rig.INDEX, Rig.EMPTY_BIT | 2);
        probe.rig.control(Rig.HIGH, AT);
        probe.rig.exec(23, 0, 0, 0);
        probe.dueReached(use, AT, 3, 20 * 64);
    }

    private static void entriesOfPair() {
        for (int i = 7; i < 32; i++) {
            once(Rig.FREE).dueRefused(Probe.LOAD, AT ^ 1 << i, 3, 63, WITH_HIGH);
            Probe two = once(Rig.FREE);
            two.rig.entry(2, AT ^ 1 << i, 0, Rig.half(21, Rig.FREE), 0);
            two.dueReached(Probe.LOAD, AT, 3, 20 * 64);
        }
        for (int use : Probe.USES) {
            once(Rig.FREE).dueReached(use, AT + 124, 3, 20 * 64 + 60);
            once(Rig.FREE).dueRefused(use, AT + 128, 3, 63, WITH_HIGH);
            once(Rig.FREE).dueRefused(use, AT - 4, 3, 63, WITH_HIGH);
        }
    }

    private static Probe inSpace(int space, int ofEntry, int even, int odd) {
        Probe probe = new Probe();
        probe.rig.entry(2, AT, ofEntry, Rig.half(20, even), Rig.half(20, odd));
        probe.rig.control(Rig.SPACE, space);
        return probe;
    }

    private static void entriesOfSpace() {
        int global = Rig.FREE | Rig.GLOBAL;
        for (int use : Probe.USES) {
            for (int space : new int[] {0, 5, 15}) {
                inSpace(space, space, Rig.FREE, Rig.FREE).dueReached(use, AT, 3, 20 * 64);
                for (int bit = 1; bit <= 8; bit *= 2) {
                    inSpace(space, space ^ bit, Rig.FREE, Rig.FREE).dueRefused(use, AT, 3, 63, WITH_HIGH);
                    inSpace(space, space ^ bit, global, Rig.FREE).dueRefused(use, AT, 3, 63, WITH_HIGH);
                    inSpace(space, space ^ bit, Rig.FREE, global).dueRefused(use, AT, 3, 63, WITH_HIGH);
                    inSpace(space, space ^ bit, global, global).dueReached(use, AT, 3, 20 * 64);
                }
            }
        }
    }

    private static void twoEntries() {
        for (int use : Probe.USES) {
            for (int mode : new int[] {0, 3, 4, 7}) {
                twice(Rig.FREE).dueStopped(use, AT, mode);
                twice(0).dueStopped(use, AT + 64, mode);
            }
            twice(Rig.FREE | Rig.GLOBAL).dueStopped(use, AT, 3);
            Probe mixed = inSpace(4, 4, Rig.FREE, Rig.FREE);
            mixed.rig.entry(1, AT, 9, Rig.FREE | Rig.GLOBAL, Rig.FREE | Rig.GLOBAL);
            mixed.dueStopped(use, AT, 3);
            Probe three = twice(Rig.FREE);
            three.rig.entry(2, AT, 0, Rig.FREE, Rig.FREE);
            three.dueStopped(use, AT, 0);
            Probe apart = inSpace(4, 4, Rig.FREE, Rig.FREE);
            apart.rig.entry(1, AT, 9, Rig.FREE, Rig.FREE);
            apart.rig.entry(3, AT, 5, Rig.FREE, Rig.FREE);
            apart.dueReached(use, AT, 3, 20 * 64);
        }
    }

    private static void noEntry() {
        for (int use : Probe.USES) {
            for (int address : new int[] {0, 60, 64, 124, 128, 1916, 2048, 0x12345678, 0x80000000, 0xFFFFFFFC}) {
                for (int mode : new int[] {0, 3, 4, 7}) {
                    new Probe().dueRefused(use, address, mode, 63, WITH_HIGH);
                }
            }
        }
    }

    private static void halfByBitSix() {
        for (int use : Probe.USES) {
            for (int offset : new int[] {0, 4, 60, 64, 68, 124}) {
                Probe probe = new Probe();
                probe.rig.entry(2, AT, 0, Rig.half(20, Rig.FREE), Rig.half(10, Rig.FREE));
                probe.dueReached(use, AT + offset, 3, offset < 64 ? 20 * 64 + offset : 10 * 64 + offset - 64);
                Probe evenOnly = new Probe();
                evenOnly.rig.entry(2, AT, 0, Rig.half(20, Rig.FREE), 0);
                Probe oddOnly = new Probe();
                oddOnly.rig.entry(2, AT, 0, 0, Rig.half(20, Rig.FREE));
                (offset < 64 ? evenOnly : oddOnly).dueReached(use, AT + offset, 3, 20 * 64 + offset % 64);
                (offset < 64 ? oddOnly : evenOnly).dueRefused(use, AT + offset, 3, Probe.notValid(use), WITH_HIGH);
            }
        }
    }

    /** Comes before the level and before WRITABLE. */
    private static void notValid() {
        for (int use : Probe.USES) {
            for (int bits : new int[] {0, 2, 12, 14}) {
                once(bits).dueRefused(use, AT, 0, Probe.notValid(use), WITH_HIGH);
                once(bits).dueRefused(use, AT + 64, 3, Probe.notValid(use), WITH_HIGH);
                once(bits | Rig.GLOBAL).dueRefused(use, AT, 7, Probe.notValid(use), WITH_HIGH);
            }
            once(15).dueReached(use, AT, 3, 20 * 64);
        }
    }

    /** Comes before WRITABLE. */
    private static void notItsLevel() {
        for (int use : Probe.USES) {
            once(1).dueRefused(use, AT, 3, 7, WITH_HIGH);
            once(3).dueRefused(use, AT + 64, 3, 7, WITH_HIGH);
            once(3).dueRefused(use, AT, 7, 7, WITH_HIGH);
            once(3).dueReached(use, AT, 0, 20 * 64);
            once(3).dueReached(use, AT, 4, 20 * 64);
            once(15).dueReached(use, AT, 0, 20 * 64);
            once(15).dueReached(use, AT, 3, 20 * 64);
        }
    }

    private static void notWritable() {
        for (int use : Probe.USES) {
            for (int mode : new int[] {0, 3, 7}) {
                if (Probe.isStore(use)) {
                    once(13).dueRefused(use, AT, mode, 4, WITH_HIGH);
                } else {
                    once(13).dueReached(use, AT, mode, 20 * 64);
                }
                once(15).dueReached(use, AT, mode, 20 * 64);
            }
            if (Probe.isStore(use)) {
                once(1).dueRefused(use, AT, 0, 4, WITH_HIGH);
            } else {
                once(1).dueReached(use, AT, 0, 20 * 64);
            }
        }
    }

    private static void withAddressAndHigh() {
        int last = 0xFFFFFFFC;
        for (int use : Probe.USES) {
            dueAtLast(0, use, last, 3, Probe.notValid(use));
            dueAtLast(3, use, last, 3, 7);
            if (Probe.isStore(use)) {
                dueAtLast(13, use, last, 3, 4);
            }
        }
    }

    private static void dueAtLast(int bits, int use, int address, int mode, int code) {
        Probe probe = new Probe();
        probe.rig.entry(1, address, 0, Rig.half(20, Rig.FREE), Rig.half(20, bits));
        probe.dueRefused(use, address, mode, code, WITH_HIGH);
    }

    private static void frames() {
        for (int use : Probe.USES) {
            for (int frame = 0; frame < 30; frame++) {
                for (int offset : new int[] {0, 20, 60}) {
                    Probe probe = new Probe();
                    probe.rig.entry(3, AT, 0, Rig.half(frame, Rig.FREE), 0);
                    probe.dueReached(use, AT + offset, 3, frame * 64 + offset);
                }
            }
            Probe last = new Probe();
            last.rig.entry(3, 0xFFFFFF80, 0, 0, Rig.half(31, Rig.FREE));
            last.dueReached(use, 0xFFFFFFFC, 3, 2044);
        }
        for (int offset = 0; offset < 64; offset += 4) {
            once(Rig.FREE).dueReached(Probe.LOAD, AT + offset, 3, 20 * 64 + offset);
        }
    }

    private static void notInMemory() {
        for (int use : Probe.USES) {
            for (int address : new int[] {2048, 2052, 4096, 0x10000000, 0x7FFFFFFC, 0x80000000, 0xFFFFFFFC}) {
                new Probe().dueRefused(use, address, 8, 8, WITHOUT_HIGH);
                new Probe().dueRefused(use, address, 15, 8, WITHOUT_HIGH);
            }
            new Probe().dueReached(use, 2044, 8, 2044);
            windowed(0x90000009).dueReached(use, 0x900007FC, 3, 2044);
            windowed(0x90000009).dueRefused(use, 0x90000800, 3, 8, WITHOUT_HIGH);
            windowed(0x90000009).dueRefused(use, 0x9FFFFFFC, 0, 8, WITHOUT_HIGH);
            windowed(0xF0000009).dueRefused(use, 0xFFFFFFFC, 0, 8, WITHOUT_HIGH);
        }
    }
}
