/** Promise 4, and what the lines do to a program. */
public final class LineTest {
    public static void main(String[] args) {
        TrapMachine x = new TrapMachine();
        for (int k = 0; k <= 3; k++) {
            x.line(k, true);
            Check.due("STATUS with line " + k, x.control(3), (2 << k) - 1);
        }
        x.line(1, true);
        Check.due("up twice", x.control(3), 15);
        x.line(1, false);
        Check.due("line 1 down", x.control(3), 13);
        x.line(1, false);
        Check.due("down twice", x.control(3), 13);
        for (int k : new int[] {-1, 4, 5, 16, 32, Integer.MIN_VALUE, Integer.MAX_VALUE}) {
            Check.refused("line " + k + " up", () -> x.line(k, true));
            Check.refused("line " + k + " down", () -> x.line(k, false));
        }
        Check.due("STATUS after refusals", x.control(3), 13);
        x.line(0, false);
        x.line(1, false);
        Check.due("lines 0 and 1 down", x.control(3), 12);
        linesAreNotWritten();
        linesInterrupt();
        Check.end();
    }

    private static void linesAreNotWritten() {
        for (int k = 0; k <= 3; k++) {
            Rig rig = new Rig();
            rig.x.line(k, true);
            rig.control(Rig.STATUS, -1);
            Check.due("STATUS written with ones", rig.x.control(Rig.STATUS), 1 << k);
            rig.control(Rig.STATUS, 0);
            Check.due("STATUS written with zeros", rig.x.control(Rig.STATUS), 1 << k);
            Check.due("the old one in the register", rig.x.register(7), 1 << k);
        }
    }

    private static void linesInterrupt() {
        Rig rig = new Rig();
        rig.control(Rig.ENTRY, 128);
        rig.control(Rig.MASK, 2);
        rig.control(Rig.MODE, 15);
        rig.x.load(64, Rig.op(6, 1, 1, 1));
        rig.x.jump(64);
        rig.x.line(0, true);
        Check.due("a line that is not in MASK", rig.x.run(1), 1);
        Check.due("its step", rig.x.register(1), 1);
        rig.x.line(1, true);
        rig.x.jump(64);
        Check.due("a line in MASK", rig.x.run(5), 1);
        rig.dueException("interrupt", 0, 64, 0, 0);
        Check.due("STATUS keeps its lines", rig.x.control(Rig.STATUS), 3);
        Check.due("the instruction is not done", rig.x.register(1), 1);
        Check.due("BEFORE", rig.x.control(Rig.BEFORE), 7);
        Check.due("MODE", rig.x.control(Rig.MODE), 8);
        rig.x.jump(64);
        Check.due("none when not ENABLED", rig.x.run(1), 1);
        Check.due("then the word is done", rig.x.register(1), 2);
        rig.control(Rig.MODE, 11);
        rig.x.jump(64);
        Check.due("nor at level 3", rig.x.run(1), 1);
        Check.due("the word is done there", rig.x.register(1), 3);
    }
}
