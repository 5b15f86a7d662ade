/** Promise 5. */
public final class FilledTest {
    private static final int[] KS = {
        0, 1, 2, 3, 4, 5, 6, 7, -1, -2, -3, -4, 1001, 256, Integer.MIN_VALUE, Integer.MAX_VALUE
    };

    public static void main(String[] args) {
        Check.sentence("FILLED becomes k", FilledTest::becomes);
        Check.sentence("(its lowest two bits)", FilledTest::lowestTwoBits);
        Check.end();
    }

    private static void becomes() {
        Rig rig = new Rig();
        for (int k : new int[] {3, 0, 2, 1, 1}) {
            rig.x.filled(k);
            rig.control(Rig.HIGH, 128 * (k + 1));
            rig.exec(24, 0, 0, 0);
            Check.due("FILL behind filled " + k, rig.x.entry(k, 1), k + 1);
        }
        Check.due("INDEX stays", rig.x.control(Rig.INDEX), 0);
    }

    private static void lowestTwoBits() {
        for (int k : KS) {
            Rig rig = new Rig();
            rig.x.filled(k);
            int low = Math.floorMod(k, 4);
            for (int n = 0; n < 6; n++) {
                rig.control(Rig.HIGH, 128 * (n + 1));
                rig.exec(24, 0, 0, 0);
                Check.due("filled " + k + ", FILL " + n, rig.x.entry((low + n) % 4, 1), n + 1);
                Check.due("and the next one", rig.x.entry((low + n + 1) % 4, 1), n > 2 ? n - 2 : 0);
            }
        }
    }
}
