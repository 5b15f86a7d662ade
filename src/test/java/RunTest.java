/** Promise 7. */
public final class RunTest {
    public static void main(String[] args) {
        Check.sentence("At most n steps are done", RunTest::atMost);
        Check.sentence("(above 2000 counts as 2000)", RunTest::aboveTwoThousand);
        Check.sentence("none any more behind one with an exception", RunTest::endsBehindAnException);
        Check.sentence("or when it has stopped", RunTest::noneWhenStopped);
        Check.sentence("Answers how many", RunTest::answersHowMany);
        Check.sentence("(that in which it STOPS, too", RunTest::stopCounts);
        Check.sentence("though it does nothing)", RunTest::stopDoesNothing);
        Check.end();
    }

    /** A loop of two words, the first of which counts in register 1. */
    private static Rig counting() {
        Rig rig = new Rig();
        rig.x.load(64, Rig.op(6, 1, 1, 1));
        rig.x.load(68, Rig.op(12, 0, 0, -1));
        rig.x.jump(64);
        return rig;
    }

    private static void atMost() {
        Rig rig = counting();
        for (int n : new int[] {0, -1, -2000, -2001, Integer.MIN_VALUE}) {
            Check.due("run " + n, rig.x.run(n), 0);
            Check.due("nothing is done", rig.x.register(1), 0);
            Check.due("PLACE stays", rig.x.register(8), 64);
        }
        Check.due("run 1", rig.x.run(1), 1);
        Check.due("one step", rig.x.register(8), 68);
        Check.due("run 3", rig.x.run(3), 3);
        Check.due("three more", rig.x.register(8), 64);
        Check.due("two of them counted", rig.x.register(1), 2);
        rig.x.line(0, true);
        rig.control(Rig.MASK, 1);
        rig.control(Rig.MODE, 12);
        Check.due("run 0 is no interrupt", rig.x.run(0), 0);
        Check.due("MODE", rig.x.control(Rig.MODE), 12);
    }

    private static void aboveTwoThousand() {
        int[][] runs = {{1999, 1999}, {2000, 2000}, {2001, 2000}, {4000, 2000}, {Integer.MAX_VALUE, 2000}};
        for (int[] run : runs) {
            Rig rig = counting();
            Check.due("run " + run[0], rig.x.run(run[0]), run[1]);
            Check.due("they are done", rig.x.register(1), (run[1] + 1) / 2);
        }
    }

    private static void endsBehindAnException() {
        Rig rig = new Rig();
        rig.control(Rig.ENTRY, 128);
        rig.x.load(64, Rig.op(6, 1, 1, 1));
        rig.x.load(68, Rig.op(16, 0, 0, 0));
        rig.x.load(128, Rig.op(6, 2, 2, 1));
        rig.x.jump(64);
        Check.due("up to the exception", rig.x.run(9), 2);
        Check.due("PLACE", rig.x.register(8), 128);
        Check.due("the handler has not begun", rig.x.register(2), 0);
        Check.due("state", rig.x.state(), 0);
        Check.due("the next run goes on", rig.x.run(1), 1);
        Check.due("in the handler", rig.x.register(2), 1);
        Check.due("up to the next exception", rig.x.run(9), 1);
        for (int place : new int[] {3, 2048, -4}) {
            rig.x.jump(place);
            Check.due("behind a PLACE without a word", rig.x.run(9), 1);
        }
        rig.x.line(0, true);
        rig.control(Rig.MASK, 1);
        rig.control(Rig.MODE, 12);
        Check.due("behind an interrupt", rig.x.run(9), 1);
        rig.control(Rig.REFILL, 128);
        rig.control(Rig.MODE, 0);
        Check.due("behind a refill", rig.x.run(9), 1);
        Check.due("in whose handler it stands", rig.x.register(8), 128);
    }

    /** Loads at 68 from an address that two entries map. */
    private static Rig stopping() {
        Rig rig = new Rig();
        rig.entry(0, 0, 0, Rig.half(0, Rig.FREE), Rig.half(1, Rig.FREE));
        rig.entry(1, 1024, 0, Rig.FREE, Rig.FREE);
        rig.entry(2, 1024, 5, Rig.FREE | Rig.GLOBAL, Rig.FREE | Rig.GLOBAL);
        rig.set(1, 1024);
        rig.set(2, 5);
        rig.control(Rig.TIME, 403);
        rig.control(Rig.MODE, 0);
        rig.x.load(64, Rig.op(6, 2, 2, 1));
        rig.x.load(68, Rig.op(10, 2, 1, 0));
        rig.x.jump(64);
        return rig;
    }

    private static void noneWhenStopped() {
        Rig rig = stopping();
        rig.x.run(9);
        Check.due("it stopped", rig.x.state(), 2);
        for (int n : new int[] {1, 9, 2001, 0, -1}) {
            Check.due("run " + n, rig.x.run(n), 0);
        }
        rig.x.line(0, true);
        Check.due("with a line, too", rig.x.run(9), 0);
        Check.due("PLACE stays", rig.x.register(8), 68);
        Check.due("it stays stopped", rig.x.state(), 2);
    }

    private static void answersHowMany() {
        Rig rig = new Rig();
        rig.x.load(64, Rig.op(6, 1, 1, 1));
        rig.x.load(68, Rig.op(6, 1, 1, 1));
        rig.x.load(72, Rig.op(16, 0, 0, 0));
        for (int n = 0; n <= 5; n++) {
            rig.x.jump(64);
            Check.due("run " + n + " up to an exception", rig.x.run(n), Math.min(n, 3));
        }
        rig.exec(27, 0, 0, 0);
        for (int n = 0; n <= 5; n++) {
            Check.due("run " + n + " of a rest", rig.x.run(n), n);
        }
    }

    private static void stopCounts() {
        for (int n = 1; n <= 3; n++) {
            Rig rig = stopping();
            Check.due("run " + n, rig.x.run(n), Math.min(n, 2));
            Check.due("state", rig.x.state(), n == 1 ? 0 : 2);
        }
        Rig rig = stopping();
        rig.x.jump(1024);
        Check.due("the first step", rig.x.run(9), 1);
        Check.due("stops it", rig.x.state(), 2);
    }

    private static void stopDoesNothing() {
        Rig rig = stopping();
        rig.x.run(1);
        int[] before = new int[18];
        for (int k = 0; k <= 17; k++) {
            before[k] = rig.x.control(k);
        }
        rig.x.run(1);
        Check.due("it stopped", rig.x.state(), 2);
        for (int k = 0; k <= 17; k++) {
            Check.due("control " + k, rig.x.control(k), before[k]);
        }
        Check.due("PLACE", rig.x.register(8), 68);
        Check.due("its register", rig.x.register(2), 6);
        Check.due("LINK", rig.x.register(9), 0);
    }
}
