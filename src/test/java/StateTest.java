/** Promise 8. */
public final class StateTest {
    public static void main(String[] args) {
        Check.sentence("0 it goes on", StateTest::goesOn);
        Check.sentence("1 it rests", StateTest::rests);
        Check.sentence("2 it stopped", StateTest::stopped);
        Check.end();
    }

    private static void goesOn() {
        Rig rig = new Rig();
        Check.due("at first", rig.x.state(), 0);
        rig.exec(6, 1, 0, 1);
        Check.due("after a step", rig.x.state(), 0);
        rig.exec(16, 0, 0, 0);
        Check.due("after an exception", rig.x.state(), 0);
        rig.x.jump(3);
        rig.x.run(1);
        Check.due("after a PLACE without a word", rig.x.state(), 0);
        rig.control(Rig.MODE, 11);
        rig.exec(27, 0, 0, 0);
        Check.due("after a REST at level 3", rig.x.state(), 0);
    }

    private static void rests() {
        Rig rig = new Rig();
        rig.exec(27, 0, 0, 0);
        Check.due("behind the instruction", rig.x.state(), 1);
        rig.x.run(5);
        Check.due("on and on", rig.x.state(), 1);
        rig.x.line(0, true);
        rig.x.run(1);
        Check.due("when MASK is 0", rig.x.state(), 1);
        rig.x.jump(0);
        Check.due("not behind a jump", rig.x.state(), 0);
        rig.control(Rig.MASK, 1);
        rig.exec(27, 0, 0, 0);
        Check.due("before the step that wakes", rig.x.state(), 1);
        rig.x.run(1);
        Check.due("not behind it", rig.x.state(), 0);
    }

    private static void stopped() {
        for (int entries = 1; entries <= 4; entries++) {
            Rig rig = new Rig();
            for (int e = 0; e < entries; e++) {
                rig.entry(e, 0, 0, Rig.half(0, Rig.FREE), Rig.half(1, Rig.FREE));
            }
            rig.control(Rig.MODE, 0);
            rig.exec(6, 1, 0, 9);
            Check.due(entries + " entries for one pair", rig.x.state(), entries == 1 ? 0 : 2);
            Check.due("its word", rig.x.register(1), entries == 1 ? 9 : 0);
            rig.x.run(3);
            rig.x.line(1, true);
            Check.due("on and on", rig.x.state(), entries == 1 ? 0 : 2);
        }
    }
}
