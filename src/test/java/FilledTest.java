/** Promise 5. */
public final class FilledTest {
    public static void main(String[] args) {
        for (int k : new int[] {0, 1, 2, 3, 4, 7, -1, -2, 1001, Integer.MIN_VALUE, Integer.MAX_VALUE}) {
            Rig rig = new Rig();
            rig.x.filled(k);
            for (int n = 0; n < 6; n++) {
                int e = k + n & 3;
                rig.control(Rig.HIGH, 128 * (n + 1));
                rig.exec(24, 0, 0, 0);
                Check.due("filled " + k + ", FILL " + n + ": there", rig.x.entry(e, 0), 1);
                Check.due("filled " + k + ", FILL " + n + ": pair", rig.x.entry(e, 1), n + 1);
                Check.due("filled " + k + ", FILL " + n + ": next is there", rig.x.entry(e + 1 & 3, 0), n > 2 ? 1 : 0);
            }
        }
        filledAnew();
        writeLeavesIt();
        Check.end();
    }

    private static void filledAnew() {
        Rig rig = new Rig();
        rig.exec(24, 0, 0, 0);
        rig.x.filled(3);
        rig.exec(24, 0, 0, 0);
        Check.due("the second FILL goes to 3", rig.x.entry(3, 0), 1);
        Check.due("not to 1", rig.x.entry(1, 0), 0);
        rig.x.filled(-2);
        rig.exec(24, 0, 0, 0);
        Check.due("the third one to 2", rig.x.entry(2, 0), 1);
    }

    private static void writeLeavesIt() {
        Rig rig = new Rig();
        rig.x.filled(1);
        rig.exec(23, 0, 0, 0);
        rig.control(Rig.MODE, 11);
        rig.exec(24, 0, 0, 0);
        Check.due("FILL at level 3", rig.code(), 14);
        rig.exec(24, 0, 0, 0);
        Check.due("FILL after it goes to 1", rig.x.entry(1, 0), 1);
        Check.due("and not to 2", rig.x.entry(2, 0), 0);
    }
}
