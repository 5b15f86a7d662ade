/** Promise 6. */
public final class JumpTest {
    public static void main(String[] args) {
        Rig rig = new Rig();
        for (int p : new int[] {4, 2044, 2048, 3, -1, -4, Integer.MIN_VALUE, Integer.MAX_VALUE, 0}) {
            rig.x.jump(p);
            Check.due("PLACE after jump " + p, rig.x.register(8), p);
            Check.due("state", rig.x.state(), 0);
        }
        Check.due("jump changes no MODE", rig.x.control(0), 8);
        endsRest();
        endsStop();
        Check.end();
    }

    private static void endsRest() {
        Rig rig = new Rig();
        rig.exec(27, 0, 0, 0);
        Check.due("it rests", rig.x.state(), 1);
        rig.x.jump(64);
        Check.due("it rests no more", rig.x.state(), 0);
        rig.x.load(64, Rig.op(6, 1, 0, 5));
        Check.due("its next step", rig.x.run(1), 1);
        Check.due("does the word", rig.x.register(1), 5);
    }

    private static void endsStop() {
        Rig rig = new Rig();
        rig.entry(1, 1024, 0, Rig.FREE, Rig.FREE);
        rig.entry(3, 1024, 0, Rig.FREE, Rig.FREE);
        rig.entry(0, 0, 0, Rig.half(0, Rig.FREE), Rig.half(1, Rig.FREE));
        rig.control(Rig.MODE, 0);
        rig.x.jump(1024);
        rig.x.run(3);
        Check.due("it stopped", rig.x.state(), 2);
        rig.x.load(64, Rig.op(6, 1, 0, 5));
        rig.x.jump(64);
        Check.due("it goes on", rig.x.state(), 0);
        Check.due("with a step", rig.x.run(1), 1);
        Check.due("that does the word", rig.x.register(1), 5);
    }
}
