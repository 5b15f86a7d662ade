/** Promise 1. */
public final class NewObjectTest {
    public static void main(String[] args) {
        TrapMachine x = new TrapMachine();
        for (int r = 0; r <= 9; r++) {
            Check.due("register " + r, x.register(r), 0);
        }
        for (int k = 0; k <= 17; k++) {
            Check.due("control " + k, x.control(k), k == 0 ? 8 : 0);
        }
        for (int e = 0; e <= 3; e++) {
            for (int what = 0; what <= 5; what++) {
                Check.due("entry " + e + ", " + what, x.entry(e, what), 0);
            }
        }
        Check.due("state", x.state(), 0);
        TrapMachine y = new TrapMachine();
        for (int i = 0; i < 500; i++) {
            Check.due("word " + 4 * i, y.word(4 * i), 0);
        }
        for (int i = 500; i < 512; i++) {
            Check.due("word " + 4 * i, x.word(4 * i), 0);
        }
        firstFilledIsZero();
        objectsAreApart();
        Check.end();
    }

    private static void firstFilledIsZero() {
        Rig rig = new Rig();
        rig.exec(24, 0, 0, 0);
        Check.due("the first FILL goes to 0", rig.x.entry(0, 0), 1);
        Check.due("and not to 1", rig.x.entry(1, 0), 0);
    }

    private static void objectsAreApart() {
        TrapMachine one = new TrapMachine();
        TrapMachine other = new TrapMachine();
        one.load(0, 5);
        one.line(1, true);
        one.jump(4);
        Check.due("another's word", other.word(0), 0);
        Check.due("another's STATUS", other.control(3), 0);
        Check.due("another's PLACE", other.register(8), 0);
    }
}
