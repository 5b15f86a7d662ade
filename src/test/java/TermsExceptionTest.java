/** The terms: what an exception does, and what it does not. */
public final class TermsExceptionTest {
    private static final int MARK = Probe.MARK;
    private static final int ENTRY = 0x600;
    private static final int REFILL = 0x604;

    public static void main(String[] args) {
        Check.sentence("BEFORE gets LEVEL and ENABLED of MODE", TermsExceptionTest::before);
        Check.sentence("which become 0", TermsExceptionTest::modeBecomesZero);
        Check.sentence("RETURN gets PLACE", TermsExceptionTest::returnGetsPlace);
        Check.sentence("STATUS the code", TermsExceptionTest::statusGetsCode);
        Check.sentence("PLACE becomes ENTRY", TermsExceptionTest::placeBecomesEntry);
        Check.sentence("for 63 REFILL", TermsExceptionTest::placeBecomesRefill);
        Check.sentence("and DIRECT becomes 1 then", TermsExceptionTest::directThen);
        Check.sentence("\"With ADDRESS\": it gets the address that was looked at", TermsExceptionTest::withAddress);
        Check.sentence("\"with HIGH\": this gets its pair", TermsExceptionTest::withHigh);
        Check.sentence("An instruction that leads to one does nothing else", TermsExceptionTest::nothingElse);
        Check.end();
    }

    private static Rig marked() {
        Rig rig = new Rig();
        rig.control(Rig.ENTRY, ENTRY);
        rig.control(Rig.REFILL, REFILL);
        rig.control(Rig.ADDRESS, MARK);
        rig.control(Rig.HIGH, MARK);
        return rig;
    }

    /** The codes of exceptions that an instruction leads to, DIRECT; with the instruction. */
    private static final int[][] LEADERS = {
        {11, Rig.op(16, 0, 0, 0)}, {12, Rig.op(17, 0, 0, 0)}, {13, Rig.op(0, 0, 0, 0)},
        {13, Rig.op(28, 0, 0, 0)}, {8, Rig.op(8, 1, 0, -4)}, {9, Rig.op(8, 1, 0, 2)}
    };

    private static void before() {
        for (int[] leader : LEADERS) {
            for (int mode : new int[] {8, 11, 12, 15}) {
                Rig rig = marked();
                rig.control(Rig.BEFORE, ~mode);
                rig.control(Rig.MODE, mode);
                rig.execAt(64, 64, leader[1]);
                Check.due("code", rig.code(), leader[0]);
                Check.due("BEFORE of MODE " + mode, rig.x.control(Rig.BEFORE), mode & 7);
            }
        }
        for (int mode : new int[] {0, 3, 4, 7}) {
            Rig rig = marked();
            rig.control(Rig.BEFORE, ~mode);
            rig.control(Rig.MODE, mode);
            rig.x.run(1);
            Check.due("code", rig.code(), 63);
            Check.due("BEFORE of MODE " + mode, rig.x.control(Rig.BEFORE), mode & 7);
        }
        Rig rig = marked();
        rig.control(Rig.MODE, 15);
        rig.exec(16, 0, 0, 0);
        rig.exec(17, 0, 0, 0);
        Check.due("BEFORE of an exception in a handler", rig.x.control(Rig.BEFORE), 0);
    }

    private static void modeBecomesZero() {
        for (int[] leader : LEADERS) {
            for (int mode : new int[] {8, 11, 12, 15}) {
                Rig rig = marked();
                rig.control(Rig.MODE, mode);
                rig.execAt(64, 64, leader[1]);
                Check.due("MODE " + mode, rig.x.control(Rig.MODE), 8);
            }
        }
        Rig rig = marked();
        rig.control(Rig.MASK, 1);
        rig.x.line(0, true);
        rig.control(Rig.MODE, 15);
        rig.execAt(64, 64, Rig.op(6, 1, 0, 1));
        Check.due("an interrupt", rig.x.control(Rig.BEFORE), 7);
        rig.execAt(64, 64, Rig.op(6, 1, 0, 1));
        Check.due("is not interrupted", rig.x.register(1), 1);
        rig.exec(18, 2, 0, Rig.STATUS);
        Check.due("and may do all", rig.x.register(2), 1);
    }

    private static void returnGetsPlace() {
        for (int[] leader : LEADERS) {
            for (int place : new int[] {12, 64, 2044}) {
                Rig rig = marked();
                rig.execAt(place, place, leader[1]);
                Check.due("RETURN", rig.x.control(Rig.RETURN), place);
            }
        }
        for (int place : new int[] {1, 2048, -4, -1, Integer.MIN_VALUE, Integer.MAX_VALUE}) {
            Rig rig = marked();
            rig.x.jump(place);
            rig.x.run(1);
            Check.due("RETURN of a PLACE without a word", rig.x.control(Rig.RETURN), place);
        }
        Rig rig = marked();
        rig.control(Rig.MASK, 1);
        rig.control(Rig.MODE, 12);
        rig.x.jump(64);
        rig.x.line(0, true);
        rig.x.run(1);
        Check.due("RETURN of an interrupt", rig.x.control(Rig.RETURN), 64);
    }

    private static void statusGetsCode() {
        Rig rig = marked();
        rig.x.line(0, true);
        rig.x.line(3, true);
        rig.ring();
        for (int[] leader : LEADERS) {
            rig.execAt(64, 64, leader[1]);
            Check.due("STATUS", rig.x.control(Rig.STATUS), leader[0] << 16 | 25);
        }
        rig.control(Rig.MODE, 0);
        rig.x.run(1);
        Check.due("STATUS of 63", rig.x.control(Rig.STATUS), 63 << 16 | 25);
        rig.control(Rig.MASK, 31);
        rig.control(Rig.MODE, 12);
        rig.x.run(1);
        Check.due("STATUS of 0", rig.x.control(Rig.STATUS), 25);
    }

    private static void placeBecomesEntry() {
        for (int entry : new int[] {0, 4, 2044, 2048, 0x7FFFFFFC, 0x80000000, -4}) {
            for (int[] leader : LEADERS) {
                Rig rig = marked();
                rig.control(Rig.ENTRY, entry);
                rig.execAt(64, 64, leader[1]);
                Check.due("PLACE", rig.x.register(8), entry);
            }
        }
        Rig rig = marked();
        rig.control(Rig.MASK, 1);
        rig.x.line(0, true);
        rig.control(Rig.MODE, 12);
        rig.x.run(1);
        Check.due("PLACE of an interrupt", rig.x.register(8), ENTRY);
    }

    private static void placeBecomesRefill() {
        for (int refill : new int[] {0, 4, 2044, 2048, 0x7FFFFFFC, 0x80000000, -4}) {
            Rig rig = marked();
            rig.control(Rig.REFILL, refill);
            rig.control(Rig.MODE, 0);
            rig.x.run(1);
            Check.due("code", rig.code(), 63);
            Check.due("PLACE", rig.x.register(8), refill);
        }
    }

    /** Only an exception 63 sets DIRECT; it stays as it is with the others. */
    private static void directThen() {
        for (int mode : new int[] {0, 3, 4, 7}) {
            Rig refill = marked();
            refill.control(Rig.MODE, mode);
            refill.x.run(1);
            Check.due("DIRECT with 63", refill.x.control(Rig.MODE), 8);
            for (int[] leader : LEADERS) {
                if (leader[0] > 9) {
                    Probe probe = new Probe();
                    probe.rig.control(Rig.MODE, mode);
                    probe.rig.execAt(Probe.HOME, Probe.HOME, leader[1]);
                    Check.due("code", probe.rig.code(), leader[0]);
                    Check.due("DIRECT with " + leader[0], probe.x.control(Rig.MODE), 0);
                }
            }
            Probe probe = new Probe();
            probe.rig.entry(1, 4096, 0, 0, 0);
            probe.dueRefused(Probe.LOAD, 4096, mode, 1, true);
            Check.due("DIRECT with 1", probe.x.control(Rig.MODE), 0);
        }
    }

    private static void withAddress() {
        dueAddress(Rig.op(8, 1, 0, -4), 8, -4);
        dueAddress(Rig.op(9, 1, 0, 2), 9, 2);
        dueAddress(Rig.op(10, 1, 0, 127), 9, 127);
        dueAddress(Rig.op(16, 0, 0, 0), 11, MARK);
        dueAddress(Rig.op(17, 0, 0, 0), 12, MARK);
        dueAddress(Rig.op(0, 0, 0, 0), 13, MARK);
        dueAddress(Rig.op(18, 0, 0, 18), 13, MARK);
        dueAddress(Rig.op(25, 0, 0, 5), 13, MARK);
        Rig level = marked();
        level.control(Rig.MODE, 11);
        level.exec(27, 0, 0, 0);
        Check.due("code", level.code(), 14);
        Check.due("ADDRESS", level.x.control(Rig.ADDRESS), MARK);
        Rig interrupt = marked();
        interrupt.control(Rig.MASK, 1);
        interrupt.x.line(0, true);
        interrupt.control(Rig.MODE, 12);
        interrupt.x.jump(3);
        interrupt.x.run(1);
        interrupt.dueException("an interrupt", 0, 3, MARK, MARK);
    }

    private static void dueAddress(int word, int code, int address) {
        Rig rig = marked();
        rig.execAt(64, 64, word);
        rig.dueException("word " + Integer.toHexString(word), code, 64, address, MARK);
    }

    private static void withHigh() {
        int[][] pairs = {{0, 0}, {124, 0}, {128, 128}, {0x7FFFFFFC, 0x7FFFFF80}, {0x80000004, 0x80000000}, {-4, -128}};
        for (int[] pair : pairs) {
            for (int use : Probe.USES) {
                new Probe().dueRefused(use, pair[0], 3, 63, true);
            }
            Rig rig = marked();
            rig.control(Rig.MODE, 3);
            rig.x.jump(pair[0]);
            rig.x.run(1);
            rig.dueException("refill", 63, pair[0], pair[0], pair[1]);
        }
    }

    private static void nothingElse() {
        Rig rig = marked();
        rig.exec(10, 6, 0, 0);
        rig.set(1, 0x1234);
        rig.x.load(0, 0x5678);
        for (int code = 8; code <= 11; code++) {
            rig.exec(code, 1, 0, 2);
            Check.due("code", rig.code(), 9);
            rig.exec(code, 1, 0, -4);
            Check.due("code", rig.code(), 8);
            Check.due("register after " + code, rig.x.register(1), 0x1234);
            Check.due("word after " + code, rig.x.word(0), 0x5678);
            Check.due("LINK after " + code, rig.x.register(9), 1);
        }
        Rig unlinked = marked();
        unlinked.exec(10, 1, 0, 2);
        Check.due("no LINK by a LOAD LINKED that fails", unlinked.x.register(9), 0);
        dueNothingElse(8, 13, 18, 18);
        dueNothingElse(8, 13, 19, 18);
        dueNothingElse(8, 13, 20, 255);
        dueNothingElse(8, 13, 25, 5);
        for (int code = 18; code <= 27; code++) {
            dueNothingElse(11, 14, code, 0);
            dueNothingElse(11, 14, code, Rig.TIME);
        }
    }

    /** A privileged instruction that leads to an exception changes nothing that it could change. */
    private static void dueNothingElse(int mode, int want, int code, int c) {
        Rig rig = marked();
        rig.entry(1, 1024, 3, 79, 67);
        rig.control(Rig.TIME, 40);
        rig.control(Rig.INDEX, 2);
        rig.control(Rig.HIGH, 2048);
        rig.exec(10, 6, 0, 0);
        rig.set(1, -1);
        rig.control(Rig.MODE, mode);
        int[] before = new int[18];
        for (int k = 5; k <= 17; k++) {
            before[k] = rig.x.control(k);
        }
        rig.execAt(64, 64, Rig.op(code, 1, 1, c));
        String what = "code " + code + ", c " + c;
        Check.due(what + ": exception", rig.code(), want);
        Check.due(what + ": PLACE", rig.x.register(8), ENTRY);
        for (int k = 5; k <= 17; k++) {
            Check.due(what + ": control " + k, rig.x.control(k), before[k]);
        }
        Check.due(what + ": a", rig.x.register(1), -1);
        Check.due(what + ": LINK", rig.x.register(9), 1);
        Check.due(what + ": state", rig.x.state(), 0);
        rig.dueEntry(what, 1, 1, 8, 3, 0, 79, 67);
        for (int e = 0; e <= 3; e++) {
            Check.due(what + ": there", rig.x.entry(e, 0), e == 1 ? 1 : 0);
        }
        rig.exec(24, 0, 0, 0);
        Check.due(what + ": FILLED", rig.x.entry(0, 1), 16);
    }
}
