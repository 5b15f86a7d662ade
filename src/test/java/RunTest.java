/** Promise 7: what a step is, how many are done, and the timer. */
public final class RunTest {
    public static void main(String[] args) {
        counts();
        endsBehindAnException();
        endsWhenItStops();
        stepsOfRest();
        timerOnce();
        timerAgain();
        timerAndExceptions();
        timerInterrupts();
        Check.end();
    }

    private static void counts() {
        Rig rig = new Rig();
        rig.x.load(64, Rig.op(6, 1, 1, 1));
        rig.x.load(68, Rig.op(12, 0, 0, -1));
        rig.x.jump(64);
        Check.due("run 0", rig.x.run(0), 0);
        Check.due("run -1", rig.x.run(-1), 0);
        Check.due("run of the least", rig.x.run(Integer.MIN_VALUE), 0);
        Check.due("nothing is done", rig.x.register(1), 0);
        Check.due("run 3", rig.x.run(3), 3);
        Check.due("three steps are done", rig.x.register(1), 2);
        Check.due("run 2000", rig.x.run(2000), 2000);
        Check.due("run 1999", rig.x.run(1999), 1999);
        Check.due("run 2001", rig.x.run(2001), 2000);
        Check.due("run of the most", rig.x.run(Integer.MAX_VALUE), 2000);
        Check.due("all of them are done", rig.x.register(1), 2 + 1000 + 999 + 1000 + 1000);
    }

    private static void endsBehindAnException() {
        Rig rig = new Rig();
        rig.control(Rig.ENTRY, 128);
        rig.x.load(64, Rig.op(6, 1, 1, 1));
        rig.x.load(68, Rig.op(16, 0, 0, 0));
        rig.x.load(128, Rig.op(6, 2, 2, 1));
        rig.x.jump(64);
        Check.due("up to the exception", rig.x.run(9), 2);
        Check.due("PLACE", rig.x.register(8), 128);
        Check.due("the handler has not begun", rig.x.register(2), 0);
        Check.due("state", rig.x.state(), 0);
        Check.due("the next run goes on", rig.x.run(1), 1);
        Check.due("in the handler", rig.x.register(2), 1);
        Check.due("words of 0 are exceptions", rig.x.run(9), 1);
    }

    private static void endsWhenItStops() {
        Rig rig = new Rig();
        rig.entry(0, 0, 0, Rig.half(0, Rig.FREE), Rig.half(1, Rig.FREE));
        rig.entry(1, 1024, 0, Rig.FREE, Rig.FREE);
        rig.entry(2, 1024, 5, Rig.FREE | Rig.GLOBAL, Rig.FREE | Rig.GLOBAL);
        rig.control(Rig.TIME, 401);
        rig.set(1, 1024);
        rig.control(Rig.MODE, 0);
        rig.x.load(64, Rig.op(6, 2, 2, 1));
        rig.x.load(68, Rig.op(10, 2, 1, 0));
        rig.x.jump(64);
        int rest = rig.x.control(Rig.REST);
        Check.due("the step that stops counts", rig.x.run(9), 2);
        Check.due("it stopped", rig.x.state(), 2);
        Check.due("PLACE stays", rig.x.register(8), 68);
        Check.due("register stays", rig.x.register(2), 1);
        Check.due("LINK stays", rig.x.register(9), 0);
        Check.due("no exception", rig.x.control(Rig.STATUS), 0);
        Check.due("ADDRESS stays", rig.x.control(Rig.ADDRESS), 0);
        Check.due("HIGH stays", rig.x.control(Rig.HIGH), 0);
        Check.due("the step does nothing to the timer", rig.x.control(Rig.REST), rest - 1);
        Check.due("no step any more", rig.x.run(9), 0);
        Check.due("nor time", rig.x.control(Rig.REST), rest - 1);
        rig.x.line(0, true);
        Check.due("nor with a line", rig.x.run(1), 0);
    }

    private static void stepsOfRest() {
        Rig rig = new Rig();
        rig.control(Rig.MASK, 4);
        rig.x.load(64, Rig.op(27, 0, 0, 0));
        rig.x.load(68, Rig.op(6, 1, 1, 1));
        rig.x.jump(64);
        Check.due("a rest goes through all steps", rig.x.run(7), 7);
        Check.due("PLACE is behind it", rig.x.register(8), 68);
        rig.x.line(1, true);
        Check.due("a line not in MASK", rig.x.run(2), 2);
        Check.due("does not wake it", rig.x.state(), 1);
        rig.x.line(2, true);
        Check.due("it wakes in a step only", rig.x.state(), 1);
        Check.due("the step that wakes it", rig.x.run(1), 1);
        Check.due("state", rig.x.state(), 0);
        Check.due("does nothing else", rig.x.register(1), 0);
        Check.due("the next step", rig.x.run(1), 1);
        Check.due("does the word", rig.x.register(1), 1);
    }

    private static void timerOnce() {
        Rig rig = new Rig();
        rig.x.load(64, Rig.op(12, 0, 0, 0));
        rig.control(Rig.TIME, 8 | 1);
        Check.due("REST counts from the step that writes TIME", rig.x.control(Rig.REST), 7);
        rig.x.jump(64);
        rig.x.run(6);
        Check.due("REST 1", rig.x.control(Rig.REST), 1);
        Check.due("no timer's bit yet", rig.x.control(Rig.STATUS), 0);
        rig.x.run(1);
        Check.due("REST 0", rig.x.control(Rig.REST), 0);
        Check.due("the timer's bit", rig.x.control(Rig.STATUS), 16);
        rig.x.run(5);
        Check.due("REST stays 0", rig.x.control(Rig.REST), 0);
        Check.due("TIME stays", rig.x.control(Rig.TIME), 9);
        rig.control(Rig.STATUS, 16);
        Check.due("the bit is taken away", rig.x.control(Rig.STATUS), 0);
        rig.control(Rig.TIME, 8);
        Check.due("not ON", rig.x.control(Rig.REST), 8);
        rig.x.jump(64);
        rig.x.run(20);
        Check.due("does not count", rig.x.control(Rig.REST), 8);
        rig.control(Rig.TIME, 3);
        rig.x.jump(64);
        rig.x.run(20);
        Check.due("START 0 never ends", rig.x.control(Rig.STATUS), 0);
    }

    private static void timerAgain() {
        Rig rig = new Rig();
        rig.x.load(64, Rig.op(12, 0, 0, 0));
        rig.control(Rig.TIME, 4 | 3);
        rig.x.jump(64);
        rig.x.run(2);
        Check.due("REST 1", rig.x.control(Rig.REST), 1);
        rig.x.run(1);
        Check.due("REST is START again", rig.x.control(Rig.REST), 4);
        Check.due("the timer's bit", rig.x.control(Rig.STATUS), 16);
        rig.set(6, 16);
        rig.exec(20, 6, 6, Rig.STATUS);
        Check.due("taken away", rig.x.control(Rig.STATUS), 0);
        rig.x.jump(64);
        rig.x.run(1);
        Check.due("comes after the next four", rig.x.control(Rig.STATUS), 0);
        rig.x.run(1);
        Check.due("as it does here", rig.x.control(Rig.STATUS), 16);
        rig.control(Rig.TIME, -1);
        Check.due("the longest REST", rig.x.control(Rig.REST), 0xFFFC - 1);
    }

    private static void timerAndExceptions() {
        Rig rig = new Rig();
        rig.control(Rig.MASK, 1);
        rig.control(Rig.TIME, 41);
        int rest = rig.x.control(Rig.REST);
        rig.exec(16, 0, 0, 0);
        Check.due("a step with an exception counts", rig.x.control(Rig.REST), rest - 1);
        rig.x.jump(3);
        rig.x.run(1);
        Check.due("so does one without a word", rig.x.control(Rig.REST), rest - 2);
        rig.exec(27, 0, 0, 0);
        rig.x.run(2);
        Check.due("and those of a rest", rig.x.control(Rig.REST), rest - 5);
        rig.x.line(0, true);
        rig.x.run(1);
        Check.due("and the one that ends it", rig.x.control(Rig.REST), rest - 6);
        rig.control(Rig.TIME, 41);
        rig.control(Rig.STATUS, 16);
        rig.set(7, 12);
        rest = rig.x.control(Rig.REST);
        rig.exec(19, 7, 0, Rig.MODE);
        rig.x.run(1);
        Check.due("and an interrupt", rig.x.control(Rig.REST), rest - 2);
        Check.due("which it was", rig.x.control(Rig.BEFORE), 4);
    }

    private static void timerInterrupts() {
        Rig rig = new Rig();
        rig.control(Rig.ENTRY, 256);
        rig.control(Rig.MASK, 16);
        rig.control(Rig.TIME, 64 | 3);
        rig.control(Rig.MODE, 12);
        rig.x.load(64, Rig.op(12, 0, 0, 0));
        rig.x.jump(64);
        int rest = rig.x.control(Rig.REST);
        Check.due("steps up to the interrupt", rig.x.run(2000), rest + 1);
        rig.dueException("timer", 0, 64, 0, 0);
        Check.due("REST after it", rig.x.control(Rig.REST), 63);
        rig.control(Rig.STATUS, 16);
        rig.exec(26, 0, 0, 0);
        Check.due("ENABLED again", rig.x.control(Rig.MODE), 12);
        Check.due("back", rig.x.register(8), 64);
    }
}
