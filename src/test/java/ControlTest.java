/** Promise 10. */
public final class ControlTest {
    /** What each register is after ones were written to all of its bits. */
    private static final int[] ALL_ONES = {
        15, 7, 31, 0, -1, -1, -4, 0x80000003, -128, 0x7DF, 0x7DF, 15, -1, -1, 0xFFFF, 0, -4, 0xF0000009
    };

    public static void main(String[] args) {
        Check.sentence("Control register k", ControlTest::eachRegister);
        Check.sentence("IllegalArgumentException when there is none", ControlTest::refused);
        Check.end();
    }

    private static void eachRegister() {
        for (int k = 0; k <= 17; k++) {
            Rig rig = new Rig();
            rig.control(k, -1);
            Check.due("control " + k + " with ones", rig.x.control(k), ALL_ONES[k]);
            Check.due("the same again", rig.x.control(k), ALL_ONES[k]);
            for (int other = 1; other <= 17; other++) {
                if (other != k && !(k == Rig.TIME && other == Rig.REST)) {
                    Check.due("control " + other + " beside " + k, rig.x.control(other), 0);
                }
            }
        }
        Rig rig = new Rig();
        rig.control(Rig.TIME, 40);
        Check.due("REST", rig.x.control(Rig.REST), 40);
        rig.x.line(2, true);
        Check.due("STATUS", rig.x.control(Rig.STATUS), 4);
    }

    private static void refused() {
        TrapMachine x = new TrapMachine();
        for (int k : new int[] {-1, -17, 18, 19, 31, 32, 64, Integer.MIN_VALUE, Integer.MAX_VALUE}) {
            Check.refused("control " + k, () -> x.control(k));
        }
    }
}
