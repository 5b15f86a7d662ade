/** Promise 9, and the instructions that every level has. */
public final class RegisterTest {
    private static final int[] VALUES = {
        0, 1, -1, 2, 127, -128, 4096, 0x12345678, Integer.MIN_VALUE, Integer.MAX_VALUE
    };

    public static void main(String[] args) {
        TrapMachine x = new TrapMachine();
        for (int r : new int[] {-1, 10, 11, 16, Integer.MIN_VALUE, Integer.MAX_VALUE}) {
            Check.refused("register " + r, () -> x.register(r));
        }
        eachRegister();
        arithmetic();
        immediates();
        loadsAndStores();
        links();
        branches();
        calls();
        Check.end();
    }

    private static void eachRegister() {
        Rig rig = new Rig();
        for (int r = 1; r <= 7; r++) {
            rig.set(r, 100 * r);
        }
        rig.set(0, 55);
        for (int r = 0; r <= 7; r++) {
            Check.due("register " + r, rig.x.register(r), 100 * r);
        }
        Check.due("PLACE", rig.x.register(8), 8);
        Check.due("LINK", rig.x.register(9), 0);
        rig.exec(1, 8 + 3, 0xF8 + 1, 0x80 + 2);
        Check.due("only three bits name a register", rig.x.register(3), 300);
        for (int code : new int[] {1, 4, 6, 7, 8, 10, 15, 18, 19, 20}) {
            rig.exec(code, 0, 1, 2);
            Check.due("register 0 after code " + code, rig.x.register(0), 0);
        }
    }

    private static void arithmetic() {
        for (int b : VALUES) {
            Rig rig = new Rig();
            rig.set(2, b);
            for (int c : VALUES) {
                rig.set(3, c);
                String with = " of " + b + ", " + c;
                dueResult(rig, 1, "sum" + with, b + c);
                dueResult(rig, 2, "difference" + with, b - c);
                dueResult(rig, 3, "and" + with, b & c);
                dueResult(rig, 4, "or" + with, b | c);
                dueResult(rig, 5, "less" + with, b < c ? 1 : 0);
            }
        }
        Rig rig = new Rig();
        rig.set(1, 6);
        rig.exec(2, 1, 1, 1);
        Check.due("a register with itself", rig.x.register(1), 0);
    }

    private static void dueResult(Rig rig, int code, String what, int want) {
        Check.due("steps", rig.exec(code, 1, 2, 3), 1);
        Check.due(what, rig.x.register(1), want);
        Check.due("PLACE behind " + what, rig.x.register(8), 12);
    }

    private static void immediates() {
        Rig rig = new Rig();
        rig.set(2, Integer.MAX_VALUE);
        for (int imm : new int[] {0, 1, 127, -128, -1}) {
            rig.exec(6, 1, 2, imm);
            Check.due("IMM " + imm, rig.x.register(1), Integer.MAX_VALUE + imm);
        }
        rig.exec(7, 1, 255, 254);
        Check.due("bytes that are high", rig.x.register(1), 0xFFFE00);
        rig.exec(7, 1, 0, 1);
        Check.due("bytes that are low", rig.x.register(1), 256);
        rig.exec(7, 1, 0x12, 0x34);
        Check.due("each byte in its place", rig.x.register(1), 0x123400);
        Check.due("PLACE", rig.x.register(8), 12);
    }

    private static void loadsAndStores() {
        Rig rig = new Rig();
        rig.set(1, 0xABCDEF);
        rig.set(2, 1024);
        rig.exec(9, 1, 2, -128);
        Check.due("STORE below", rig.x.word(896), 0xABCDEF);
        Check.due("PLACE", rig.x.register(8), 12);
        rig.exec(9, 1, 2, 124);
        Check.due("STORE above", rig.x.word(1148), 0xABCDEF);
        Check.due("register stays", rig.x.register(1), 0xABCDEF);
        rig.exec(8, 3, 2, 124);
        Check.due("LOAD", rig.x.register(3), 0xABCDEF);
        rig.exec(8, 2, 2, -128);
        Check.due("LOAD to its own base", rig.x.register(2), 0xABCDEF);
        Check.due("no LINK", rig.x.register(9), 0);
        rig.set(2, 0);
        rig.exec(8, 1, 2, -4);
        rig.dueException("LOAD below 0", 8, 8, -4, 0);
        Check.due("its register stays", rig.x.register(1), 0xABCDEF);
        rig.exec(8, 1, 2, 2);
        rig.dueException("LOAD at 2", 9, 8, 2, 0);
        rig.exec(9, 1, 2, 1);
        rig.dueException("STORE at 1", 9, 8, 1, 0);
        Check.due("memory stays", rig.x.word(0), 0);
        rig.exec(9, 1, 2, 0);
        Check.due("STORE at 0", rig.x.word(0), 0xABCDEF);
        rig.exec(8, 3, 2, 0);
        Check.due("LOAD at 0", rig.x.register(3), 0xABCDEF);
        rig.execAt(0, 0, Rig.op(6, 3, 0, 1));
        Check.due("the word at 0 is done", rig.x.register(3), 1);
        rig.execAt(2044, 2044, Rig.op(6, 3, 0, 2));
        Check.due("and the one at 2044", rig.x.register(3), 2);
        Check.due("PLACE is behind memory", rig.x.register(8), 2048);
    }

    private static void links() {
        Rig rig = new Rig();
        rig.set(1, 64);
        rig.set(2, 5);
        rig.exec(11, 2, 1, 3);
        Check.due("without LINK no address is looked at", rig.code(), 0);
        Check.due("answer 0", rig.x.register(2), 0);
        Check.due("PLACE", rig.x.register(8), 12);
        rig.x.load(64, 31);
        rig.exec(10, 3, 1, 0);
        Check.due("LOAD LINKED", rig.x.register(3), 31);
        Check.due("sets LINK", rig.x.register(9), 1);
        rig.exec(9, 3, 1, 4);
        Check.due("STORE leaves LINK", rig.x.register(9), 1);
        rig.set(2, 5);
        rig.exec(11, 2, 1, 1);
        rig.dueException("STORE IF LINKED at 65", 9, 8, 65, 0);
        Check.due("leaves LINK", rig.x.register(9), 1);
        Check.due("and the register", rig.x.register(2), 5);
        rig.exec(11, 2, 1, 8);
        Check.due("STORE IF LINKED", rig.x.word(72), 5);
        Check.due("answer 1", rig.x.register(2), 1);
        Check.due("takes LINK away", rig.x.register(9), 0);
        rig.exec(11, 2, 1, 8);
        Check.due("the second one stores not", rig.x.word(72), 5);
        Check.due("answer 0 again", rig.x.register(2), 0);
        rig.exec(10, 2, 1, 2);
        Check.due("a LOAD LINKED that fails sets none", rig.x.register(9), 0);
        rig.exec(10, 2, 1, 0);
        rig.exec(16, 0, 0, 0);
        Check.due("an exception leaves LINK", rig.x.register(9), 1);
        rig.exec(26, 0, 0, 0);
        Check.due("BACK takes it away", rig.x.register(9), 0);
    }

    private static void branches() {
        for (int a : VALUES) {
            Rig rig = new Rig();
            rig.set(1, a);
            for (int b : VALUES) {
                rig.set(2, b);
                String with = " of " + a + ", " + b;
                duePlace(rig, 12, "if equal" + with, a == b);
                duePlace(rig, 13, "if not" + with, a != b);
                duePlace(rig, 14, "if less" + with, a < b);
            }
        }
        Rig rig = new Rig();
        rig.set(1, 400);
        rig.exec(15, 2, 1, -3);
        Check.due("jump", rig.x.register(8), 388);
        Check.due("its way back", rig.x.register(2), 12);
        rig.exec(15, 1, 1, 127);
        Check.due("jump by its own register", rig.x.register(8), 908);
        Check.due("which changes after it", rig.x.register(1), 12);
        rig.exec(15, 0, 0, -128);
        Check.due("jump below 0", rig.x.register(8), -512);
    }

    private static void duePlace(Rig rig, int code, String what, boolean goes) {
        rig.exec(code, 1, 2, 127);
        Check.due(what, rig.x.register(8), goes ? 8 + 508 : 12);
        rig.x.jump(8);
    }

    private static void calls() {
        for (int code : new int[] {0, 16, 17, 28, 29, 127, 128, 200, 255}) {
            for (int mode : new int[] {8, 11, 15}) {
                Rig rig = new Rig();
                rig.control(Rig.ENTRY, 260);
                rig.control(Rig.MODE, mode);
                Check.due("steps", rig.exec(code, 1, 2, 3), 1);
                int want = code == 16 ? 11 : code == 17 ? 12 : 13;
                rig.dueException("code " + code, want, 8, 0, 0);
                Check.due("BEFORE", rig.x.control(Rig.BEFORE), mode & 7);
                Check.due("MODE", rig.x.control(Rig.MODE), 8);
            }
        }
    }
}
