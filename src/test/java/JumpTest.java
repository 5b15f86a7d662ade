/** Promise 6. */
public final class JumpTest {
    private static final int[] PLACES = {4, 2044, 2048, 3, 1, -1, -4, Integer.MIN_VALUE, Integer.MAX_VALUE, 0};

    public static void main(String[] args) {
        Check.sentence("PLACE becomes p", JumpTest::placeBecomes);
        Check.sentence("the machine goes on if it stopped", JumpTest::endsStop);
        Check.sentence("and rests no more", JumpTest::endsRest);
        Check.end();
    }

    private static void placeBecomes() {
        Rig rig = new Rig();
        rig.exec(10, 1, 0, 0);
        for (int p : PLACES) {
            rig.x.jump(p);
            Check.due("PLACE", rig.x.register(8), p);
            Check.due("state", rig.x.state(), 0);
        }
        Check.due("MODE stays", rig.x.control(0), 8);
        Check.due("LINK stays", rig.x.register(9), 1);
        Check.due("STATUS stays", rig.x.control(3), 0);
        rig.x.jump(3);
        rig.x.run(1);
        rig.dueException("a place that is none is found in the step", 8, 3, 3, 0);
    }

    private static void endsRest() {
        for (int p : PLACES) {
            Rig rig = new Rig();
            rig.exec(27, 0, 0, 0);
            Check.due("it rests", rig.x.state(), 1);
            rig.x.jump(p);
            Check.due("it rests no more", rig.x.state(), 0);
            Check.due("PLACE", rig.x.register(8), p);
        }
        Rig rig = new Rig();
        rig.exec(27, 0, 0, 0);
        rig.x.jump(64);
        rig.x.load(64, Rig.op(6, 1, 0, 5));
        Check.due("its next step", rig.x.run(1), 1);
        Check.due("does the word", rig.x.register(1), 5);
    }

    private static Rig stopped() {
        Rig rig = new Rig();
        rig.entry(1, 1024, 0, Rig.FREE, Rig.FREE);
        rig.entry(3, 1024, 0, Rig.FREE, Rig.FREE);
        rig.entry(0, 0, 0, Rig.half(0, Rig.FREE), Rig.half(1, Rig.FREE));
        rig.control(Rig.MODE, 0);
        rig.x.jump(1024);
        rig.x.run(3);
        Check.due("it stopped", rig.x.state(), 2);
        return rig;
    }

    private static void endsStop() {
        for (int p : PLACES) {
            Rig rig = stopped();
            rig.x.jump(p);
            Check.due("it goes on", rig.x.state(), 0);
            Check.due("PLACE", rig.x.register(8), p);
        }
        Rig rig = stopped();
        rig.x.load(64, Rig.op(6, 1, 0, 5));
        rig.x.jump(64);
        Check.due("with a step", rig.x.run(1), 1);
        Check.due("that does the word", rig.x.register(1), 5);
        rig.x.jump(1024);
        Check.due("the same place again", rig.x.run(5), 1);
        Check.due("stops it again", rig.x.state(), 2);
    }
}
