/** The terms: the instructions of level 0 that have to do with no entry, 18 to 20, 26 and 27, and the codes that are none. */
public final class TermsPrivilegedTest {
    public static void main(String[] args) {
        Check.sentence("The following at level 3: exception 14.", TermsPrivilegedTest::atLevelThree);
        Check.sentence("18 a = control register c.", TermsPrivilegedTest::reads);
        Check.sentence("19 a and control register c change their values.", TermsPrivilegedTest::changes);
        Check.sentence("20: likewise with those bits alone that b has", TermsPrivilegedTest::changesBits);
        Check.sentence("(a gets all of the old one; other bits of the register stay)", TermsPrivilegedTest::otherBitsStay);
        Check.sentence("(c, a byte, above 17: exception 13.", TermsPrivilegedTest::noSuchRegister);
        Check.sentence("What is written counts as said above; bits that do not count stay.)",
            TermsPrivilegedTest::bitsThatDoNotCount);
        Check.sentence("26 BACK: PLACE = RETURN", TermsPrivilegedTest::backToReturn);
        Check.sentence("LEVEL and ENABLED are those of BEFORE", TermsPrivilegedTest::backToBefore);
        Check.sentence("LINK is taken away", TermsPrivilegedTest::backTakesLink);
        Check.sentence("and if the code of STATUS is 63, DIRECT becomes 0", TermsPrivilegedTest::backFromRefill);
        Check.sentence("27 REST: the machine rests", TermsPrivilegedTest::rests);
        Check.sentence("Other codes: exception 13", TermsPrivilegedTest::otherCodes);
        Check.end();
    }

    private static void atLevelThree() {
        for (int code = 1; code <= 27; code++) {
            for (int c : new int[] {0, 4, 8, 17, 18, 255}) {
                Rig rig = new Rig();
                rig.control(Rig.ENTRY, 512);
                rig.set(2, 1024);
                rig.control(Rig.MODE, 15);
                rig.execAt(64, 64, Rig.op(code, 1, 2, c));
                boolean due = code >= 18;
                Check.due("code " + code + ", c " + c + " at level 3", rig.code() == 14 ? 1 : 0, due ? 1 : 0);
                if (due) {
                    rig.dueException("code " + code, 14, 64, 0, 0);
                    Check.due("BEFORE", rig.x.control(Rig.BEFORE), 7);
                }
            }
        }
    }

    private static void reads() {
        for (int k = 0; k <= 17; k++) {
            Rig rig = new Rig();
            rig.x.line(3, true);
            rig.control(Rig.TIME, 40);
            if (k != Rig.MODE) {
                rig.control(k, k == Rig.TIME ? 40 : -1);
            }
            int value = rig.x.control(k);
            Check.due("control " + k + " is something", value != 0 ? 1 : 0, 1);
            rig.exec(18, 1, 2, k);
            Check.due("control " + k, rig.x.register(1), value);
            Check.due("it stays", rig.x.control(k), value);
        }
    }

    private static void changes() {
        Rig rig = new Rig();
        rig.control(Rig.KEPT, 0x80000001);
        rig.set(1, 0x7FFFFFFE);
        rig.exec(19, 1, 4, Rig.KEPT);
        Check.due("the register", rig.x.register(1), 0x80000001);
        Check.due("the control register", rig.x.control(Rig.KEPT), 0x7FFFFFFE);
        rig.exec(19, 0, 4, Rig.KEPT);
        Check.due("register 0 gives 0", rig.x.control(Rig.KEPT), 0);
        Check.due("and gets nothing", rig.x.register(0), 0);
        rig.control(Rig.SPACE, 9);
        rig.set(1, 0x75);
        rig.exec(19, 1, 0, Rig.SPACE);
        Check.due("what counts of it", rig.x.control(Rig.SPACE), 5);
        Check.due("the old one", rig.x.register(1), 9);
        rig.set(1, 0);
        rig.exec(19, 1, 0, Rig.MODE);
        Check.due("MODE, in the step that is DIRECT still", rig.x.control(Rig.MODE), 0);
        Check.due("its old value", rig.x.register(1), 8);
    }

    private static void changesBits() {
        Rig rig = new Rig();
        rig.control(Rig.KEPT, 0x0F0F0F0F);
        rig.set(1, 0x12345678);
        rig.set(2, 0x00FFFF00);
        rig.exec(20, 1, 2, Rig.KEPT);
        Check.due("those bits alone", rig.x.control(Rig.KEPT), 0x0F34560F);
        rig.set(1, 0x55555555);
        rig.set(2, -1);
        rig.exec(20, 1, 2, Rig.KEPT);
        Check.due("all bits", rig.x.control(Rig.KEPT), 0x55555555);
        rig.set(1, -1);
        rig.exec(20, 1, 0, Rig.KEPT);
        Check.due("no bits", rig.x.control(Rig.KEPT), 0x55555555);
        rig.set(3, 0xF0);
        rig.exec(20, 3, 3, Rig.KEPT);
        Check.due("a and b the same", rig.x.control(Rig.KEPT), 0x555555F5);
        rig.exec(20, 0, 2, Rig.KEPT);
        Check.due("register 0 as a", rig.x.control(Rig.KEPT), 0);
    }

    private static void otherBitsStay() {
        Rig rig = new Rig();
        rig.control(Rig.EVEN, 0x555);
        rig.set(1, 0);
        rig.set(2, 1);
        rig.exec(20, 1, 2, Rig.EVEN);
        Check.due("VALID alone is taken away", rig.x.control(Rig.EVEN), 0x55C);
        Check.due("a gets all", rig.x.register(1), 0x55D);
        Check.due("b stays", rig.x.register(2), 1);
        rig.set(1, -1);
        rig.exec(20, 1, 0, Rig.EVEN);
        Check.due("a gets all, without bits, too", rig.x.register(1), 0x55C);
        rig.set(3, 7);
        rig.exec(20, 3, 3, Rig.EVEN);
        Check.due("a gets all, when it is b", rig.x.register(3), 0x55C);
        rig.control(Rig.MODE, 12);
        rig.set(1, 0);
        rig.set(2, 4);
        rig.exec(20, 1, 2, Rig.MODE);
        Check.due("ENABLED alone", rig.x.control(Rig.MODE), 8);
        Check.due("the old MODE", rig.x.register(1), 12);
    }

    private static void noSuchRegister() {
        for (int code = 18; code <= 20; code++) {
            for (int c = 16; c < 256; c++) {
                Rig rig = new Rig();
                rig.control(Rig.ENTRY, 512);
                rig.set(1, 7);
                rig.exec(code, 1, 1, c);
                if (c > 17) {
                    rig.dueException("code " + code + " with " + c, 13, 8, 0, 0);
                    Check.due("a stays", rig.x.register(1), 7);
                } else {
                    Check.due("code " + code + " with " + c, rig.code(), 0);
                    Check.due("a", rig.x.register(1), 0);
                }
            }
        }
    }

    private static void bitsThatDoNotCount() {
        int[][] dues = {
            {Rig.BEFORE, 7}, {Rig.MASK, 31}, {Rig.STATUS, 0}, {Rig.ENTRY, -4}, {Rig.INDEX, 0x80000003}, {Rig.HIGH, -128},
            {Rig.EVEN, 0x7DF}, {Rig.ODD, 0x7DF}, {Rig.SPACE, 15}, {Rig.TIME, 0xFFFF}, {Rig.REST, 0}, {Rig.REFILL, -4},
            {Rig.WINDOW, 0xF0000009}
        };
        for (int[] due : dues) {
            Rig rig = new Rig();
            rig.controlBits(due[0], -1, -1);
            Check.due("control " + due[0] + " by 20", rig.x.control(due[0]), due[1]);
            Rig whole = new Rig();
            whole.control(due[0], -1);
            Check.due("control " + due[0] + " by 19", whole.x.control(due[0]), due[1]);
            Rig none = new Rig();
            none.controlBits(due[0], -1, ~due[1] & (due[0] == Rig.STATUS ? ~16 : -1));
            Check.due("control " + due[0] + " by others", none.x.control(due[0]), 0);
        }
        Rig status = new Rig();
        status.x.line(2, true);
        status.exec(17, 0, 0, 0);
        status.controlBits(Rig.STATUS, 0, -1);
        Check.due("lines and code stay", status.x.control(Rig.STATUS), 4 | 12 << 16);
    }

    private static void backToReturn() {
        for (int place : new int[] {0, 64, 2044, 3, -1, Integer.MIN_VALUE, Integer.MAX_VALUE}) {
            Rig rig = new Rig();
            rig.control(Rig.RETURN, place);
            Check.due("steps", rig.exec(26, 0, 0, 0), 1);
            Check.due("PLACE", rig.x.register(8), place);
            Check.due("RETURN stays", rig.x.control(Rig.RETURN), place);
        }
        Rig rig = new Rig();
        rig.control(Rig.RETURN, 3);
        rig.exec(26, 0, 0, 0);
        rig.x.run(1);
        rig.dueException("a RETURN that is no place", 8, 3, 3, 0);
    }

    private static void backToBefore() {
        for (int mode : new int[] {8, 12}) {
            for (int before : new int[] {0, 3, 4, 7}) {
                Rig rig = new Rig();
                rig.control(Rig.BEFORE, before);
                rig.control(Rig.MODE, mode);
                rig.exec(26, 0, 0, 0);
                Check.due("MODE", rig.x.control(Rig.MODE), 8 | before);
                Check.due("BEFORE stays", rig.x.control(Rig.BEFORE), before);
                Check.due("STATUS stays", rig.x.control(Rig.STATUS), 0);
            }
        }
    }

    private static void backTakesLink() {
        Rig rig = new Rig();
        rig.exec(10, 1, 0, 0);
        Check.due("LINK", rig.x.register(9), 1);
        rig.exec(26, 0, 0, 0);
        Check.due("LINK after BACK", rig.x.register(9), 0);
        rig.exec(26, 0, 0, 0);
        Check.due("after another", rig.x.register(9), 0);
    }

    private static void backFromRefill() {
        for (int before : new int[] {0, 3, 4, 7}) {
            Rig rig = new Rig();
            rig.control(Rig.MODE, before);
            rig.x.run(1);
            Check.due("code", rig.code(), 63);
            rig.exec(26, 0, 0, 0);
            Check.due("MODE after 63", rig.x.control(Rig.MODE), before);
            Check.due("the code stays", rig.code(), 63);
        }
        Rig nested = new Rig();
        nested.control(Rig.MODE, 0);
        nested.x.run(1);
        nested.exec(16, 0, 0, 0);
        nested.exec(26, 0, 0, 0);
        Check.due("MODE when another code came behind", nested.x.control(Rig.MODE), 8);
        backWhileMapped();
    }

    private static void backWhileMapped() {
        Probe probe = new Probe();
        probe.rig.control(Rig.BEFORE, 7);
        probe.rig.control(Rig.MODE, 0);
        probe.rig.execAt(Probe.HOME, Probe.HOME, Rig.op(26, 0, 0, 0));
        Check.due("DIRECT is not set by BACK", probe.x.control(Rig.MODE), 7);
    }

    private static void rests() {
        Rig rig = new Rig();
        Check.due("steps", rig.exec(27, 0xFF, 0xFF, 0xFF), 1);
        Check.due("state", rig.x.state(), 1);
        Check.due("PLACE", rig.x.register(8), 12);
        Check.due("steps of rest", rig.x.run(2001), 2000);
        Check.due("state", rig.x.state(), 1);
        Rig asked = new Rig();
        asked.control(Rig.MASK, 1);
        asked.x.line(0, true);
        asked.exec(27, 0, 0, 0);
        Check.due("with a line that is up, too", asked.x.state(), 1);
    }

    private static void otherCodes() {
        for (int code = 0; code < 256; code++) {
            if (code >= 1 && code <= 27) {
                continue;
            }
            for (int mode : new int[] {8, 11, 15}) {
                Rig rig = new Rig();
                rig.control(Rig.ENTRY, 260);
                rig.control(Rig.MODE, mode);
                rig.execAt(64, 64, Rig.op(code, 1, 2, 3));
                rig.dueException("code " + code, 13, 64, 0, 0);
                Check.due("BEFORE", rig.x.control(Rig.BEFORE), mode & 7);
            }
        }
    }
}
