/** Promise 1. */
public final class NewObjectTest {
    public static void main(String[] args) {
        Check.sentence("All is at its beginning", NewObjectTest::atItsBeginning);
        Check.sentence("All is at its beginning: objects are apart", NewObjectTest::objectsAreApart);
        Check.sentence("FILLED is 0", NewObjectTest::firstFilledIsZero);
        Check.sentence("no lines", NewObjectTest::noLines);
        Check.end();
    }

    private static void atItsBeginning() {
        TrapMachine x = new TrapMachine();
        for (int r = 0; r <= 9; r++) {
            Check.due("register " + r, x.register(r), 0);
        }
        for (int k = 0; k <= 17; k++) {
            Check.due("control " + k, x.control(k), k == 0 ? 8 : 0);
        }
        for (int e = 0; e <= 3; e++) {
            for (int what = 0; what <= 5; what++) {
                Check.due("entry " + e + ", " + what, x.entry(e, what), 0);
            }
        }
        Check.due("state", x.state(), 0);
        TrapMachine y = new TrapMachine();
        for (int i = 0; i < 512; i++) {
            Check.due("word " + 4 * i, y.word(4 * i), 0);
        }
    }

    private static void firstFilledIsZero() {
        Rig rig = new Rig();
        rig.exec(24, 0, 0, 0);
        for (int e = 0; e <= 3; e++) {
            Check.due("the first FILL: entry " + e, rig.x.entry(e, 0), e == 0 ? 1 : 0);
        }
    }

    private static void noLines() {
        Rig rig = new Rig();
        rig.control(Rig.MASK, -1);
        rig.control(Rig.MODE, 12);
        Check.due("nothing interrupts", rig.spin(9), 9);
        rig.exec(27, 0, 0, 0);
        rig.x.run(9);
        Check.due("nothing wakes", rig.x.state(), 1);
        Check.due("STATUS", rig.x.control(Rig.STATUS), 0);
    }

    private static void objectsAreApart() {
        Rig one = new Rig();
        TrapMachine other = new TrapMachine();
        one.entry(0, 4096, 1, 79, 79);
        one.x.line(1, true);
        one.x.filled(2);
        one.exec(10, 1, 0, 0);
        one.exec(27, 0, 0, 0);
        Check.due("another's word", other.word(8), 0);
        Check.due("another's STATUS", other.control(3), 0);
        Check.due("another's register", other.register(7), 0);
        Check.due("another's PLACE", other.register(8), 0);
        Check.due("another's LINK", other.register(9), 0);
        Check.due("another's entry", other.entry(0, 0), 0);
        Check.due("another's state", other.state(), 0);
        TrapMachine later = new TrapMachine();
        Check.due("a later one's word", later.word(8), 0);
        Check.due("a later one's INDEX", later.control(7), 0);
    }
}
