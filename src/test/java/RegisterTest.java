/** Promise 9. */
public final class RegisterTest {
    public static void main(String[] args) {
        Check.sentence("Register r (0 .. 7)", RegisterTest::eachRegister);
        Check.sentence("PLACE for 8", RegisterTest::place);
        Check.sentence("LINK for 9 (1 or 0)", RegisterTest::link);
        Check.sentence("IllegalArgumentException for others", RegisterTest::refused);
        Check.end();
    }

    private static void eachRegister() {
        Rig rig = new Rig();
        for (int r = 0; r <= 7; r++) {
            rig.set(r, 100 * r + 7);
        }
        for (int r = 0; r <= 7; r++) {
            Check.due("register " + r, rig.x.register(r), r == 0 ? 0 : 100 * r + 7);
        }
        rig.set(5, Integer.MIN_VALUE);
        Check.due("the least", rig.x.register(5), Integer.MIN_VALUE);
        rig.set(5, Integer.MAX_VALUE);
        Check.due("the greatest", rig.x.register(5), Integer.MAX_VALUE);
    }

    private static void place() {
        Rig rig = new Rig();
        rig.exec(6, 1, 0, 1);
        Check.due("behind a step", rig.x.register(8), 12);
        rig.execAt(2044, 2044, Rig.op(6, 1, 0, 1));
        Check.due("behind the last word", rig.x.register(8), 2048);
        rig.x.jump(Integer.MIN_VALUE);
        Check.due("behind a jump", rig.x.register(8), Integer.MIN_VALUE);
    }

    private static void link() {
        Rig rig = new Rig();
        Check.due("at first", rig.x.register(9), 0);
        rig.exec(10, 1, 0, 0);
        Check.due("behind a LOAD LINKED", rig.x.register(9), 1);
        rig.exec(11, 1, 0, 64);
        Check.due("behind a STORE IF LINKED", rig.x.register(9), 0);
        rig.exec(10, 1, 0, 0);
        rig.exec(26, 0, 0, 0);
        Check.due("behind a BACK", rig.x.register(9), 0);
    }

    private static void refused() {
        TrapMachine x = new TrapMachine();
        for (int r : new int[] {-1, -8, 10, 11, 16, 17, 18, 32, Integer.MIN_VALUE, Integer.MAX_VALUE}) {
            Check.refused("register " + r, () -> x.register(r));
        }
    }
}
