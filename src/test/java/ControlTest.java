/** Promise 10: the control registers, and the instructions that read and write them. */
public final class ControlTest {
    /** What each register is after ones were written to all of its bits. */
    private static final int[] ALL_ONES = {
        15, 7, 31, 0, -1, -1, -4, 0x80000003, -128, 0x7DF, 0x7DF, 15, -1, -1, 0xFFFF, 0, -4, 0xF0000009
    };

    public static void main(String[] args) {
        TrapMachine x = new TrapMachine();
        for (int k : new int[] {-1, 18, 19, 32, Integer.MIN_VALUE, Integer.MAX_VALUE}) {
            Check.refused("control " + k, () -> x.control(k));
        }
        onesAndZeros();
        levels();
        readOnly();
        bitsAlone();
        statusByBits();
        timeByBits();
        wrongNumbers();
        privileged();
        back();
        Check.end();
    }

    private static void onesAndZeros() {
        for (int k = 0; k <= 17; k++) {
            Rig rig = new Rig();
            int old = rig.x.control(k);
            rig.set(7, -1);
            Check.due("steps", rig.exec(19, 7, 0, k), 1);
            Check.due("control " + k + " with ones", rig.x.control(k), ALL_ONES[k]);
            Check.due("its old value", rig.x.register(7), old);
            Check.due("PLACE", rig.x.register(8), 12);
            for (int other = 1; other <= 17; other++) {
                if (other != k && !(k == Rig.TIME && other == Rig.REST)) {
                    Check.due("control " + other + " beside " + k, rig.x.control(other), 0);
                }
            }
            if (k != Rig.MODE) {
                rig.control(k, 0);
                Check.due("control " + k + " with zeros", rig.x.control(k), 0);
            }
        }
    }

    private static void levels() {
        for (int level = 0; level <= 3; level++) {
            Rig rig = new Rig();
            int counted = level == 0 ? 0 : 3;
            rig.control(Rig.BEFORE, level);
            Check.due("BEFORE " + level, rig.x.control(Rig.BEFORE), counted);
            rig.control(Rig.EVEN, level << 2);
            Check.due("EVEN " + level, rig.x.control(Rig.EVEN), counted << 2);
            rig.control(Rig.ODD, level << 2 | 1);
            Check.due("ODD " + level, rig.x.control(Rig.ODD), counted << 2 | 1);
            rig.control(Rig.MODE, 8 | level);
            Check.due("MODE " + level, rig.x.control(Rig.MODE), 8 | counted);
        }
    }

    private static void readOnly() {
        Rig rig = new Rig();
        rig.control(Rig.TIME, 400);
        Check.due("REST", rig.x.control(Rig.REST), 400);
        rig.control(Rig.REST, 7);
        Check.due("REST is not written", rig.x.control(Rig.REST), 400);
        Check.due("but read", rig.x.register(7), 400);
        rig.set(6, -1);
        rig.exec(20, 6, 6, Rig.REST);
        Check.due("nor by bits", rig.x.control(Rig.REST), 400);
        rig.exec(18, 5, 0, Rig.TIME);
        Check.due("code 18 reads", rig.x.register(5), 400);
        Check.due("PLACE", rig.x.register(8), 12);
        rig.set(4, 9);
        rig.exec(18, 4, 0, 12);
        Check.due("code 18 writes not", rig.x.control(12), 0);
        Check.due("and reads 0", rig.x.register(4), 0);
    }

    private static void bitsAlone() {
        Rig rig = new Rig();
        rig.control(12, 0x0F0F0F0F);
        rig.set(1, 0x12345678);
        rig.set(2, 0x00FFFF00);
        rig.exec(20, 1, 2, 12);
        Check.due("those bits alone", rig.x.control(12), 0x0F34560F);
        Check.due("all of the old one", rig.x.register(1), 0x0F0F0F0F);
        Check.due("b stays", rig.x.register(2), 0x00FFFF00);
        Check.due("PLACE", rig.x.register(8), 12);
        rig.set(1, -1);
        rig.exec(20, 1, 0, 12);
        Check.due("no bits", rig.x.control(12), 0x0F34560F);
        Check.due("the old one", rig.x.register(1), 0x0F34560F);
        rig.set(3, 0xFF);
        rig.exec(20, 3, 3, 13);
        Check.due("a and b the same", rig.x.control(13), 0xFF);
        Check.due("gets the old one", rig.x.register(3), 0);
        rig.control(Rig.BEFORE, 7);
        rig.set(1, 0);
        rig.set(2, 2);
        rig.exec(20, 1, 2, Rig.BEFORE);
        Check.due("half a level counts as 3", rig.x.control(Rig.BEFORE), 7);
        rig.set(1, 0);
        rig.set(2, 3);
        rig.exec(20, 1, 2, Rig.BEFORE);
        Check.due("a whole one as 0", rig.x.control(Rig.BEFORE), 4);
        rig.set(1, -1);
        rig.set(2, 1);
        rig.exec(20, 1, 2, Rig.BEFORE);
        Check.due("and one bit as 3", rig.x.control(Rig.BEFORE), 7);
        rig.set(1, -1);
        rig.set(2, -1);
        rig.exec(20, 1, 2, Rig.WINDOW);
        Check.due("bits that do not count", rig.x.control(Rig.WINDOW), 0xF0000009);
    }

    private static void statusByBits() {
        Rig rig = new Rig();
        rig.x.line(3, true);
        rig.exec(17, 0, 0, 0);
        rig.control(Rig.TIME, 5);
        rig.x.jump(4);
        rig.x.run(1);
        rig.set(1, -1);
        rig.set(2, ~16);
        int full = 12 << 16 | 24;
        Check.due("STATUS", rig.x.control(Rig.STATUS), full);
        rig.exec(20, 1, 2, Rig.STATUS);
        Check.due("bit 4 not among them", rig.x.control(Rig.STATUS), full);
        Check.due("the old one", rig.x.register(1), full);
        rig.set(1, ~16);
        rig.set(2, -1);
        rig.exec(20, 1, 2, Rig.STATUS);
        Check.due("bit 4 written as 0", rig.x.control(Rig.STATUS), full);
        rig.control(Rig.STATUS, ~16);
        Check.due("likewise with code 19", rig.x.control(Rig.STATUS), full);
        rig.set(1, 16);
        rig.set(2, 16);
        rig.exec(20, 1, 2, Rig.STATUS);
        Check.due("bit 4 takes the timer's bit", rig.x.control(Rig.STATUS), full - 16);
        rig.control(Rig.STATUS, 16);
        Check.due("which is then away", rig.x.control(Rig.STATUS), full - 16);
    }

    private static void timeByBits() {
        Rig rig = new Rig();
        rig.control(Rig.TIME, 40);
        rig.set(1, 1);
        rig.set(2, 1);
        rig.exec(20, 1, 2, Rig.TIME);
        Check.due("ON alone", rig.x.control(Rig.TIME), 41);
        Check.due("REST is START less one", rig.x.control(Rig.REST), 39);
        rig.set(1, 0);
        rig.set(2, 1);
        rig.exec(20, 1, 2, Rig.TIME);
        Check.due("not ON", rig.x.control(Rig.TIME), 40);
        Check.due("REST is START", rig.x.control(Rig.REST), 40);
    }

    private static void wrongNumbers() {
        for (int code = 18; code <= 20; code++) {
            for (int c : new int[] {18, 19, 25, 128, 255}) {
                Rig rig = new Rig();
                rig.control(Rig.ENTRY, 512);
                rig.set(1, 7);
                rig.set(2, -1);
                rig.exec(code, 1, 2, c);
                rig.dueException("code " + code + " with " + c, 13, 8, 0, 0);
                Check.due("a stays", rig.x.register(1), 7);
            }
        }
    }

    private static void privileged() {
        for (int code = 18; code <= 27; code++) {
            for (int c : new int[] {0, 12, 200}) {
                Rig rig = new Rig();
                rig.control(Rig.ENTRY, 512);
                rig.set(1, 9);
                rig.control(Rig.MODE, 11);
                rig.exec(code, 1, 1, c);
                rig.dueException("code " + code + " at level 3", 14, 8, 0, 0);
                Check.due("a stays", rig.x.register(1), 9);
                Check.due("KEPT stays", rig.x.control(12), 0);
                Check.due("no entry", rig.x.entry(0, 0), 0);
                Check.due("no rest", rig.x.state(), 0);
                Check.due("BEFORE", rig.x.control(Rig.BEFORE), 3);
            }
        }
    }

    private static void back() {
        Rig rig = new Rig();
        rig.control(Rig.RETURN, 0x12345679);
        rig.control(Rig.BEFORE, 7);
        rig.exec(26, 0, 0, 0);
        Check.due("PLACE", rig.x.register(8), 0x12345679);
        Check.due("MODE", rig.x.control(Rig.MODE), 15);
        Check.due("BEFORE stays", rig.x.control(Rig.BEFORE), 7);
        rig.x.run(1);
        rig.dueException("odd PLACE", 8, 0x12345679, 0x12345679, 0);
        Check.due("MODE then", rig.x.control(Rig.MODE), 8);
        rig.exec(17, 0, 0, 0);
        rig.control(Rig.BEFORE, 0);
        rig.exec(26, 0, 0, 0);
        Check.due("the code stays", rig.code(), 12);
        Check.due("DIRECT stays", rig.x.control(Rig.MODE), 8);
    }
}
