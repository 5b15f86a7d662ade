/** Promise 8. */
public final class StateTest {
    public static void main(String[] args) {
        Rig rig = new Rig();
        Check.due("at first", rig.x.state(), 0);
        rig.exec(16, 0, 0, 0);
        Check.due("after an exception", rig.x.state(), 0);
        rig.exec(27, 0, 0, 0);
        Check.due("it rests", rig.x.state(), 1);
        rig.x.run(5);
        Check.due("it rests on", rig.x.state(), 1);
        rig.x.line(0, true);
        rig.x.run(1);
        Check.due("MASK is 0", rig.x.state(), 1);
        rig.x.jump(0);
        Check.due("it goes on", rig.x.state(), 0);
        rig.control(Rig.MODE, 11);
        rig.exec(27, 0, 0, 0);
        Check.due("no rest at level 3", rig.x.state(), 0);
        Check.due("an exception", rig.code(), 14);
        timerWakes();
        stops();
        Check.end();
    }

    private static void timerWakes() {
        Rig rig = new Rig();
        rig.control(Rig.MASK, 16);
        rig.control(Rig.TIME, 13);
        rig.exec(27, 0, 0, 0);
        int rest = rig.x.control(Rig.REST);
        rig.x.run(rest);
        Check.due("the timer's bit comes at the end of a step", rig.x.state(), 1);
        rig.x.run(1);
        Check.due("the next one wakes", rig.x.state(), 0);
    }

    private static void stops() {
        for (int entries = 1; entries <= 4; entries++) {
            Rig rig = new Rig();
            for (int e = 0; e < entries; e++) {
                rig.entry(e, 0, 0, Rig.half(0, Rig.FREE), Rig.half(1, Rig.FREE));
            }
            rig.control(Rig.MODE, 0);
            rig.exec(6, 1, 0, 9);
            Check.due(entries + " entries for one pair", rig.x.state(), entries == 1 ? 0 : 2);
            Check.due("its word", rig.x.register(1), entries == 1 ? 9 : 0);
        }
    }
}
