/** Promise 4. */
public final class LineTest {
    private static final int[] WRONG = {-1, 4, 5, 8, 16, 31, 32, 33, Integer.MIN_VALUE, Integer.MAX_VALUE};

    public static void main(String[] args) {
        Check.sentence("Line k (0 .. 3) is up or not", LineTest::upOrNot);
        Check.sentence("Line k (0 .. 3) is up or not: no program writes it", LineTest::notWritten);
        Check.sentence("IllegalArgumentException when there is none", LineTest::refused);
        Check.end();
    }

    private static void upOrNot() {
        TrapMachine x = new TrapMachine();
        for (int k = 0; k <= 3; k++) {
            x.line(k, false);
            Check.due("line " + k + " down from the first", x.control(3), (1 << k) - 1);
            x.line(k, true);
            Check.due("line " + k + " up", x.control(3), (2 << k) - 1);
            x.line(k, true);
            Check.due("line " + k + " up twice", x.control(3), (2 << k) - 1);
        }
        for (int k = 0; k <= 3; k++) {
            x.line(k, false);
            Check.due("line " + k + " down", x.control(3), 15 & ~((2 << k) - 1));
            x.line(k, false);
            Check.due("line " + k + " down twice", x.control(3), 15 & ~((2 << k) - 1));
        }
        Rig rig = new Rig();
        rig.ring();
        rig.exec(17, 0, 0, 0);
        rig.x.line(3, true);
        Check.due("timer's bit and code stay", rig.x.control(Rig.STATUS), 12 << 16 | 16 | 8);
        rig.x.line(3, false);
        Check.due("then, too", rig.x.control(Rig.STATUS), 12 << 16 | 16);
    }

    private static void notWritten() {
        for (int k = 0; k <= 3; k++) {
            Rig rig = new Rig();
            rig.x.line(k, true);
            rig.control(Rig.STATUS, -1);
            Check.due("STATUS written with ones", rig.x.control(Rig.STATUS), 1 << k);
            rig.control(Rig.STATUS, 0);
            Check.due("STATUS written with zeros", rig.x.control(Rig.STATUS), 1 << k);
            rig.control(Rig.MASK, -1);
            rig.control(Rig.MODE, 12);
            rig.x.run(1);
            Check.due("an interrupt leaves it up", rig.x.control(Rig.STATUS), 1 << k);
        }
    }

    private static void refused() {
        TrapMachine x = new TrapMachine();
        x.line(0, true);
        x.line(2, true);
        for (int k : WRONG) {
            Check.refused("line " + k + " up", () -> x.line(k, true));
            Check.due("STATUS behind it", x.control(3), 5);
            Check.refused("line " + k + " down", () -> x.line(k, false));
            Check.due("STATUS behind it", x.control(3), 5);
        }
    }
}
