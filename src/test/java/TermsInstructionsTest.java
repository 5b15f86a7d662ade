/** The terms: how a word is read, and the instructions 1 to 17. */
public final class TermsInstructionsTest {
    private static final int[] VALUES = {
        0, 1, -1, 2, 127, -128, 4096, 0x12345678, Integer.MIN_VALUE, Integer.MAX_VALUE
    };

    public static void main(String[] args) {
        Check.sentence("a word is 16777216 * code + 65536 * a + 256 * b + c (bytes", TermsInstructionsTest::bytes);
        Check.sentence("a, b and c as registers are their lowest three bits", TermsInstructionsTest::threeBits);
        Check.sentence("IMM is c as -128 .. 127)", TermsInstructionsTest::imm);
        Check.sentence("PLACE is 4 more then, if nothing else is said", TermsInstructionsTest::placeIsFourMore);
        Check.sentence("1 a = b + c.", () -> binary(1));
        Check.sentence("2 a = b - c.", () -> binary(2));
        Check.sentence("3 a = b and c.", () -> binary(3));
        Check.sentence("4 a = b or c.", () -> binary(4));
        Check.sentence("5 a = 1 if b < c, else 0.", () -> binary(5));
        Check.sentence("6 a = b + IMM.", TermsInstructionsTest::addImm);
        Check.sentence("7 a = 65536 * b + 256 * c (bytes).", TermsInstructionsTest::highBytes);
        Check.sentence("8 LOAD: a = the word at b + IMM.", TermsInstructionsTest::load);
        Check.sentence("9 STORE: that word becomes a.", TermsInstructionsTest::store);
        Check.sentence("10 LOAD LINKED: like 8, and LINK is set.", TermsInstructionsTest::loadLinked);
        Check.sentence("11 STORE IF LINKED: if LINK, like 9, LINK is taken away and a = 1", TermsInstructionsTest::linked);
        Check.sentence("else a = 0.", TermsInstructionsTest::notLinked);
        Check.sentence("12 if a = b: PLACE is 4 * IMM more.", () -> branches(12));
        Check.sentence("13 if not: PLACE is 4 * IMM more.", () -> branches(13));
        Check.sentence("14 if a < b: PLACE is 4 * IMM more.", () -> branches(14));
        Check.sentence("15 a = PLACE + 4, and PLACE = b + 4 * IMM", TermsInstructionsTest::jump);
        Check.sentence("(b as before)", TermsInstructionsTest::jumpByItself);
        Check.sentence("16: exception 11.", () -> leads(16, 11));
        Check.sentence("17: exception 12.", () -> leads(17, 12));
        Check.end();
    }

    private static void bytes() {
        Rig rig = new Rig();
        rig.x.load(64, 16777216 * 7 + 65536 * 5 + 256 * 255 + 254);
        rig.x.jump(64);
        rig.x.run(1);
        Check.due("code 7, a 5, b 255, c 254", rig.x.register(5), 65536 * 255 + 256 * 254);
        for (int code : new int[] {128 + 7, 64 + 7, 32 + 7}) {
            rig.exec(code, 5, 0, 1);
            Check.due("code " + code + " is another", rig.code(), 13);
            Check.due("its a stays", rig.x.register(5), 65536 * 255 + 256 * 254);
        }
    }

    private static void threeBits() {
        for (int high = 0; high < 256; high += 8) {
            Rig rig = new Rig();
            rig.set(2, 200);
            rig.set(3, 3);
            rig.set(6, 0);
            rig.exec(1, high + 1, 2, 3);
            Check.due("a with " + high, rig.x.register(1), 203);
            rig.exec(2, 4, high + 2, 3);
            Check.due("b with " + high, rig.x.register(4), 197);
            rig.exec(1, 5, 2, high + 3);
            Check.due("c with " + high, rig.x.register(5), 203);
            rig.exec(9, high + 2, high + 6, 64);
            Check.due("STORE with " + high, rig.x.word(64), 200);
            rig.exec(12, high + 1, high + 5, 3);
            Check.due("if a = b with " + high, rig.x.register(8), 20);
            rig.exec(15, high + 7, high + 2, 0);
            Check.due("jump with " + high, rig.x.register(8), 200);
            Check.due("its way back with " + high, rig.x.register(7), 12);
            rig.exec(20, high + 2, high + 3, Rig.KEPT);
            Check.due("bits with " + high, rig.x.control(Rig.KEPT), 200 & 3);
        }
    }

    private static void imm() {
        Rig rig = new Rig();
        for (int c : new int[] {0, 1, 126, 127, 128, 129, 254, 255}) {
            int imm = c < 128 ? c : c - 256;
            rig.exec(6, 1, 0, c);
            Check.due("6 with " + c, rig.x.register(1), imm);
            rig.exec(12, 0, 0, c);
            Check.due("12 with " + c, rig.x.register(8), 8 + 4 * imm);
            rig.exec(15, 1, 0, c);
            Check.due("15 with " + c, rig.x.register(8), 4 * imm);
            rig.set(2, 1024);
            rig.exec(9, 2, 2, c & -4);
            Check.due("9 with " + (c & -4), rig.x.word(1024 + (imm & -4)), 1024);
        }
    }

    private static void placeIsFourMore() {
        for (int code = 1; code <= 27; code++) {
            if (code >= 15 && code <= 17 || code == 26) {
                continue;
            }
            for (int place : new int[] {12, 64, 2044}) {
                Rig rig = new Rig();
                rig.set(1, 64);
                rig.set(2, 65);
                rig.execAt(place, place, goesOn(code));
                Check.due("code " + code + " at " + place, rig.x.register(8), place + 4);
                Check.due("no exception", rig.x.control(Rig.STATUS), 0);
            }
        }
    }

    /** A word with the code that goes on behind itself when register 1 is 64 and register 2 is 65. */
    private static int goesOn(int code) {
        return switch (code) {
            case 12, 14 -> Rig.op(code, 2, 1, 9);
            case 13 -> Rig.op(code, 2, 2, 9);
            case 18, 19, 20 -> Rig.op(code, 2, 1, Rig.KEPT);
            default -> Rig.op(code, 2, 0, 0);
        };
    }

    private static int result(int code, int b, int c) {
        return switch (code) {
            case 1 -> (int) ((long) b + c);
            case 2 -> (int) ((long) b - c);
            case 3 -> b & c;
            case 4 -> b | c;
            default -> (long) b - c < 0 ? 1 : 0;
        };
    }

    private static void binary(int code) {
        for (int b : VALUES) {
            Rig rig = new Rig();
            rig.set(2, b);
            for (int c : VALUES) {
                rig.set(3, c);
                rig.exec(code, 1, 2, 3);
                Check.due("of " + b + ", " + c, rig.x.register(1), result(code, b, c));
            }
            rig.exec(code, 2, 2, 2);
            Check.due("of " + b + " and itself", rig.x.register(2), result(code, b, b));
        }
    }

    private static void addImm() {
        Rig rig = new Rig();
        for (int b : VALUES) {
            for (int imm : new int[] {-128, -1, 0, 1, 127}) {
                rig.set(2, b);
                rig.exec(6, 1, 2, imm);
                Check.due("6 of " + b + ", " + imm, rig.x.register(1), (int) ((long) b + imm));
            }
        }
    }

    private static void highBytes() {
        Rig rig = new Rig();
        rig.set(1, -1);
        rig.set(2, -1);
        for (int b : new int[] {0, 1, 2, 127, 128, 255}) {
            for (int c : new int[] {0, 1, 2, 127, 128, 255}) {
                rig.exec(7, 1, b, c);
                Check.due("7 of " + b + ", " + c, rig.x.register(1), 65536 * b + 256 * c);
            }
        }
    }

    private static void load() {
        Rig rig = new Rig();
        rig.x.load(2044, 0x80000001);
        rig.x.load(1024, 5);
        rig.set(2, 2044 - 124);
        rig.exec(8, 1, 2, 124);
        Check.due("the last word", rig.x.register(1), 0x80000001);
        rig.set(2, 1024 + 128);
        rig.exec(8, 2, 2, -128);
        Check.due("to its own base", rig.x.register(2), 5);
        Check.due("no LINK", rig.x.register(9), 0);
        dueSum(8, -4, 4, 0);
        dueSum(8, 128, -128, 0);
        dueRefusedSum(8, Integer.MAX_VALUE - 3, 4, 8, Integer.MIN_VALUE);
        dueRefusedSum(8, Integer.MIN_VALUE, -4, 8, Integer.MAX_VALUE - 3);
        dueRefusedSum(8, 0, -4, 8, -4);
        dueRefusedSum(8, 2044, 4, 8, 2048);
        dueRefusedSum(8, 1, 1, 9, 2);
        dueSum(8, 2, 126, 128);
    }

    /** A load at b + IMM, which wraps around, reaches a real address. */
    private static void dueSum(int code, int b, int imm, int real) {
        Rig rig = new Rig();
        rig.set(2, b);
        rig.x.load(real, 4711);
        rig.exec(code, 1, 2, imm);
        Check.due("the word at " + b + " + " + imm, rig.x.register(1), 4711);
    }

    private static void dueRefusedSum(int code, int b, int imm, int want, int address) {
        Rig rig = new Rig();
        rig.set(1, 9);
        rig.set(2, b);
        rig.exec(code, 1, 2, imm);
        rig.dueException(b + " + " + imm, want, 8, address, 0);
        Check.due("a stays", rig.x.register(1), 9);
    }

    private static void store() {
        Rig rig = new Rig();
        rig.set(1, 0x80000001);
        rig.set(2, 1024);
        rig.exec(9, 1, 2, -128);
        Check.due("the word below", rig.x.word(896), 0x80000001);
        rig.exec(9, 1, 2, 124);
        Check.due("the word above", rig.x.word(1148), 0x80000001);
        Check.due("a stays", rig.x.register(1), 0x80000001);
        rig.exec(9, 0, 2, 124);
        Check.due("register 0 stores 0", rig.x.word(1148), 0);
        rig.exec(9, 2, 2, 0);
        Check.due("b itself", rig.x.word(1024), 1024);
        rig.exec(10, 3, 2, 0);
        rig.exec(9, 1, 2, 0);
        Check.due("LINK stays", rig.x.register(9), 1);
        rig.set(2, -4);
        rig.exec(9, 1, 2, 4);
        Check.due("a sum that wraps around", rig.x.word(0), 0x80000001);
        dueRefusedSum(9, Integer.MAX_VALUE - 3, 4, 8, Integer.MIN_VALUE);
        dueRefusedSum(9, 2044, 4, 8, 2048);
        dueRefusedSum(9, 2044, 1, 9, 2045);
    }

    private static void loadLinked() {
        Rig rig = new Rig();
        rig.x.load(64, 31);
        rig.exec(10, 3, 0, 64);
        Check.due("LINK", rig.x.register(9), 1);
        Check.due("the word", rig.x.register(3), 31);
        rig.exec(10, 3, 0, 64);
        Check.due("LINK set twice", rig.x.register(9), 1);
        Rig zero = new Rig();
        zero.exec(10, 0, 0, 64);
        Check.due("LINK with register 0", zero.x.register(9), 1);
        dueSum(10, -4, 4, 0);
        dueRefusedSum(10, 0, -4, 8, -4);
        dueRefusedSum(10, 0, 3, 9, 3);
    }

    private static void linked() {
        Rig rig = new Rig();
        rig.set(2, 5);
        rig.exec(10, 3, 0, 64);
        rig.exec(11, 2, 0, 72);
        Check.due("the word, at another address, too", rig.x.word(72), 5);
        Check.due("a", rig.x.register(2), 1);
        Check.due("LINK", rig.x.register(9), 0);
        rig.exec(10, 3, 0, 64);
        rig.set(2, 96);
        rig.exec(11, 2, 2, 4);
        Check.due("a and b the same: the word", rig.x.word(100), 96);
        Check.due("a and b the same: a", rig.x.register(2), 1);
        rig.exec(10, 3, 0, 64);
        rig.x.load(64, 8);
        rig.exec(9, 3, 0, 64);
        rig.exec(16, 0, 0, 0);
        rig.set(2, 6);
        rig.exec(11, 2, 0, 64);
        Check.due("LINK outlasts loads, stores and exceptions", rig.x.word(64), 6);
        rig.exec(10, 3, 0, 64);
        rig.set(2, 7);
        rig.exec(11, 2, 0, 65);
        rig.dueException("an address that fails", 9, 8, 65, 0);
        Check.due("leaves LINK", rig.x.register(9), 1);
        Check.due("and a", rig.x.register(2), 7);
        rig.exec(11, 2, 0, 64);
        Check.due("so that the next one stores", rig.x.word(64), 7);
    }

    private static void notLinked() {
        Rig rig = new Rig();
        rig.x.load(64, 31);
        rig.set(2, 5);
        rig.exec(11, 2, 0, 64);
        Check.due("the word stays", rig.x.word(64), 31);
        Check.due("a", rig.x.register(2), 0);
        Check.due("PLACE", rig.x.register(8), 12);
        for (int c : new int[] {1, -4}) {
            rig.set(2, 5);
            rig.exec(11, 2, 0, c);
            Check.due("no address is looked at", rig.x.control(Rig.STATUS), 0);
            Check.due("a", rig.x.register(2), 0);
        }
        rig.exec(10, 3, 0, 64);
        rig.exec(11, 3, 0, 64);
        rig.set(2, 5);
        rig.exec(11, 2, 0, 64);
        Check.due("the second one", rig.x.register(2), 0);
        Check.due("does not store", rig.x.word(64), 31);
    }

    private static boolean goes(int code, int a, int b) {
        return code == 12 ? a == b : code == 13 ? a != b : (long) a - b < 0;
    }

    private static void branches(int code) {
        for (int a : VALUES) {
            Rig rig = new Rig();
            rig.set(1, a);
            for (int b : VALUES) {
                rig.set(2, b);
                rig.exec(code, 1, 2, 127);
                Check.due("of " + a + ", " + b, rig.x.register(8), goes(code, a, b) ? 8 + 508 : 12);
            }
        }
        Rig rig = new Rig();
        rig.set(1, 7);
        rig.set(2, code == 12 ? 7 : 8);
        for (int imm : new int[] {-128, -2, -1, 0, 1, 2, 127}) {
            rig.exec(code, 1, 2, imm);
            Check.due("by " + imm, rig.x.register(8), 8 + 4 * imm);
            rig.execAt(2044, 2044, Rig.op(code, 1, 2, imm));
            Check.due("from the last word by " + imm, rig.x.register(8), 2044 + 4 * imm);
        }
        Check.due("a stays", rig.x.register(1), 7);
        dueWrap(code, 0x7FFFFFFC, 1, 0x80000000);
        dueWrap(code, 0xFFFFFFFC, 127, 504);
        dueWrap(code, 0x8000007C, -128, 0x7FFFFE7C);
    }

    /** PLACE, in the odd half of a pair that is mapped, goes beyond the greatest or the least int. */
    private static void dueWrap(int code, int place, int imm, int want) {
        Rig rig = new Rig();
        rig.entry(1, place, 0, 0, Rig.half(20, Rig.FREE));
        rig.set(1, 7);
        rig.set(2, code == 12 ? 7 : 8);
        rig.control(Rig.MODE, 3);
        rig.execAt(20 * 64 + 60, place, Rig.op(code, 1, 2, imm));
        Check.due("from " + place + " by " + imm, rig.x.register(8), want);
    }

    private static void jump() {
        Rig rig = new Rig();
        for (int b : VALUES) {
            for (int imm : new int[] {-128, -1, 0, 1, 127}) {
                rig.set(1, b);
                rig.exec(15, 2, 1, imm);
                Check.due("to " + b + ", " + imm, rig.x.register(8), (int) (b + 4L * imm));
                Check.due("a", rig.x.register(2), 12);
            }
        }
        Rig last = new Rig();
        last.entry(1, -4, 0, 0, Rig.half(20, Rig.FREE));
        last.set(1, 64);
        last.control(Rig.MODE, 3);
        last.execAt(20 * 64 + 60, -4, Rig.op(15, 1, 0, 1));
        Check.due("a behind the last PLACE", last.x.register(1), 0);
        Check.due("PLACE", last.x.register(8), 4);
    }

    private static void jumpByItself() {
        Rig rig = new Rig();
        rig.set(1, 400);
        rig.exec(15, 1, 1, -3);
        Check.due("PLACE", rig.x.register(8), 388);
        Check.due("a", rig.x.register(1), 12);
        rig.exec(15, 0, 0, 5);
        Check.due("PLACE by register 0", rig.x.register(8), 20);
        Check.due("register 0", rig.x.register(0), 0);
    }

    private static void leads(int code, int want) {
        for (int mode : new int[] {8, 11, 12, 15}) {
            for (int bytes : new int[] {0, 0x010203, 0xFFFFFF}) {
                Rig rig = new Rig();
                rig.control(Rig.ENTRY, 260);
                rig.control(Rig.MODE, mode);
                Check.due("steps", rig.execAt(64, 64, code << 24 | bytes), 1);
                rig.dueException("in MODE " + mode, want, 64, 0, 0);
                Check.due("BEFORE", rig.x.control(Rig.BEFORE), mode & 7);
            }
        }
    }
}
