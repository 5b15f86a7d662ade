/** Ordinary programs, in which the parts work together. */
public final class ProgramTest {
    public static void main(String[] args) {
        Check.sentence("a small buffer of page pairs which a handler refills", ProgramTest::refill);
        Check.sentence("exceptions and the way back", ProgramTest::callAndBack);
        Check.sentence("lines and a timer that interrupt", ProgramTest::timer);
        Check.sentence("two levels of privilege", ProgramTest::levels);
        Check.end();
    }

    /** The handler fills the buffer, and the instruction is done at the second try. */
    private static void refill() {
        Probe probe = new Probe();
        Rig rig = probe.rig;
        rig.control(Rig.EVEN, Rig.half(20, Rig.FREE));
        rig.control(Rig.ODD, Rig.half(21, Rig.FREE));
        rig.x.filled(2);
        rig.x.load(0x704, Rig.op(24, 0, 0, 0));
        rig.x.load(0x708, Rig.op(26, 0, 0, 0));
        rig.x.load(1284, 77);
        probe.dueRefused(Probe.LOAD, 4100, 7, 63, true);
        Check.due("the handler", rig.x.run(2), 2);
        Check.due("DIRECT no more", rig.x.control(Rig.MODE), 7);
        Check.due("PLACE", rig.x.register(8), Probe.HOME);
        Check.due("the pair", rig.x.entry(2, 1), 32);
        Check.due("once more", rig.x.run(1), 1);
        Check.due("it is loaded", rig.x.register(1), 77);
    }

    /** A call from level 3, in a handler that stays mapped, and back behind the call. */
    private static void callAndBack() {
        Rig rig = new Probe().rig;
        int handler = Probe.HOME + 64;
        rig.control(Rig.ENTRY, handler);
        rig.x.load(handler, Rig.op(18, 3, 0, Rig.RETURN));
        rig.x.load(handler + 4, Rig.op(6, 3, 3, 4));
        rig.x.load(handler + 8, Rig.op(19, 3, 0, Rig.RETURN));
        rig.x.load(handler + 12, Rig.op(26, 0, 0, 0));
        rig.x.load(Probe.HOME, Rig.op(16, 0, 0, 0));
        rig.x.load(Probe.HOME + 4, Rig.op(6, 4, 0, 9));
        rig.control(Rig.MODE, 3);
        rig.x.jump(Probe.HOME);
        Check.due("the call", rig.x.run(9), 1);
        rig.dueException("the call", 11, Probe.HOME, 0, 0);
        Check.due("the handler and a word", rig.x.run(5), 5);
        Check.due("MODE", rig.x.control(Rig.MODE), 3);
        Check.due("the word behind the call", rig.x.register(4), 9);
    }

    private static void timer() {
        Rig rig = new Rig();
        rig.control(Rig.ENTRY, 256);
        rig.control(Rig.MASK, 16);
        rig.control(Rig.TIME, 64 | 3);
        rig.control(Rig.MODE, 12);
        int rest = rig.x.control(Rig.REST);
        Check.due("steps up to the interrupt", rig.spin(2000), rest + 1);
        rig.dueException("timer", 0, Rig.LOOP, 0, 0);
        Check.due("REST after it", rig.x.control(Rig.REST), 63);
        rig.control(Rig.STATUS, Rig.TIMER_BIT);
        rig.exec(26, 0, 0, 0);
        Check.due("ENABLED again", rig.x.control(Rig.MODE), 12);
        Check.due("back", rig.x.register(8), Rig.LOOP);
        rest = rig.x.control(Rig.REST);
        Check.due("up to the next one", rig.x.run(2000), rest + 1);
    }

    /** Level 3 counts; what it may not do, its handler does at level 0. */
    private static void levels() {
        Rig rig = new Rig();
        rig.control(Rig.ENTRY, 256);
        rig.x.load(256, Rig.op(18, 2, 0, Rig.STATUS));
        rig.x.load(64, Rig.op(6, 1, 0, 3));
        rig.x.load(68, Rig.op(18, 2, 0, Rig.STATUS));
        rig.control(Rig.MODE, 11);
        rig.x.jump(64);
        Check.due("steps of level 3", rig.x.run(9), 2);
        rig.dueException("privilege", 14, 68, 0, 0);
        Check.due("the handler's", rig.x.run(1), 1);
        Check.due("reads it", rig.x.register(2), 14 << 16);
    }
}
