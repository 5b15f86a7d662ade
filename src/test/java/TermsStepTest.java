/** The terms: what a step is, the rest, the interrupts and the timer. */
public final class TermsStepTest {
    public static void main(String[] args) {
        Check.sentence("it rests no more if MASK and the bits 0 to 4 of STATUS have one in common",
            TermsStepTest::wakes);
        Check.sentence("the step does nothing else but 3", TermsStepTest::wakingDoesNothingElse);
        Check.sentence("Otherwise, if ENABLED and they have one in common: exception 0", TermsStepTest::interrupts);
        Check.sentence("Otherwise the word at PLACE is done", TermsStepTest::wordIsDone);
        Check.sentence("Then, if ON", TermsStepTest::ifOn);
        Check.sentence("and REST above 0, REST becomes 1 less", TermsStepTest::oneLess);
        Check.sentence("when that is 0, the timer's bit is set", TermsStepTest::bitIsSet);
        Check.sentence("and with AGAIN REST becomes START", TermsStepTest::again);
        Check.sentence("3. Then", TermsStepTest::timerComesLast);
        Check.sentence("the step does nothing else but 3: the timer", TermsStepTest::timerOfEachKindOfStep);
        Check.end();
    }

    /** A machine that rests; PLACE is 12, where a word counts in register 1. */
    private static Rig resting(int mask, int mode) {
        Rig rig = new Rig();
        rig.control(Rig.ENTRY, 256);
        rig.control(Rig.MASK, mask);
        rig.control(Rig.MODE, mode);
        rig.x.load(12, Rig.op(6, 1, 1, 1));
        rig.exec(27, 0, 0, 0);
        return rig;
    }

    private static void wakes() {
        for (int k = 0; k <= 3; k++) {
            for (int mask = 0; mask < 32; mask++) {
                Rig rig = resting(mask, 8);
                rig.x.line(k, true);
                Check.due("it wakes in a step only", rig.x.state(), 1);
                rig.x.run(1);
                Check.due("line " + k + " and MASK " + mask, rig.x.state(), (mask >> k & 1) != 0 ? 0 : 1);
            }
        }
        for (int mask : new int[] {0, 15, 16, 31}) {
            Rig rig = new Rig();
            rig.ring();
            rig.control(Rig.MASK, mask);
            rig.exec(27, 0, 0, 0);
            rig.x.run(1);
            Check.due("the timer and MASK " + mask, rig.x.state(), mask < 16 ? 1 : 0);
        }
        Rig coded = new Rig();
        coded.control(Rig.MODE, 0);
        coded.x.run(1);
        coded.control(Rig.MASK, -1);
        coded.exec(27, 0, 0, 0);
        Check.due("steps", coded.x.run(9), 9);
        Check.due("the code wakes not", coded.x.state(), 1);
        Rig down = resting(31, 8);
        down.x.line(2, true);
        down.x.line(2, false);
        down.x.run(1);
        Check.due("nor a line that is down again", down.x.state(), 1);
    }

    private static void wakingDoesNothingElse() {
        Rig rig = resting(2, 8);
        Check.due("it rests through all steps", rig.x.run(7), 7);
        Check.due("PLACE", rig.x.register(8), 12);
        rig.x.line(1, true);
        Check.due("the step that wakes", rig.x.run(1), 1);
        Check.due("does no word", rig.x.register(1), 0);
        Check.due("nor moves PLACE", rig.x.register(8), 12);
        Check.due("the next step", rig.x.run(1), 1);
        Check.due("does the word", rig.x.register(1), 1);
        Rig enabled = resting(2, 12);
        enabled.x.line(1, true);
        Check.due("the step that wakes", enabled.x.run(1), 1);
        Check.due("is no interrupt", enabled.x.control(Rig.MODE), 12);
        Check.due("nor the end of a run", enabled.x.state(), 0);
        Check.due("the next one", enabled.x.run(9), 1);
        enabled.dueException("is one", 0, 12, 0, 0);
        Rig both = resting(2, 12);
        both.x.line(1, true);
        Check.due("both steps in one run", both.x.run(9), 2);
        Check.due("the word is not done", both.x.register(1), 0);
    }

    /** A machine with these lines, about to do a word that counts in register 1. */
    private static Rig asked(int lines, int mask, int mode) {
        Rig rig = new Rig();
        rig.control(Rig.ENTRY, 256);
        rig.control(Rig.MASK, mask);
        rig.control(Rig.MODE, mode);
        rig.x.load(64, Rig.op(6, 1, 1, 1));
        rig.x.jump(64);
        for (int k = 0; k <= 3; k++) {
            rig.x.line(k, (lines >> k & 1) != 0);
        }
        return rig;
    }

    private static void interrupts() {
        for (int lines = 0; lines < 16; lines++) {
            for (int mask = 0; mask < 32; mask++) {
                boolean due = (lines & mask) != 0;
                Rig rig = asked(lines, mask, 15);
                Check.due("steps", rig.x.run(1), 1);
                Check.due("lines " + lines + ", MASK " + mask, rig.x.register(8), due ? 256 : 68);
                Check.due("the word", rig.x.register(1), due ? 0 : 1);
            }
        }
        for (int mode : new int[] {8, 11}) {
            Rig rig = asked(15, 31, mode);
            rig.x.run(1);
            Check.due("not ENABLED", rig.x.register(1), 1);
        }
        dueInterruptFirst(3, 12);
        dueInterruptFirst(2048, 12);
        dueInterruptFirst(-4, 7);
        Rig timer = new Rig();
        timer.control(Rig.MASK, 16);
        timer.ring();
        timer.control(Rig.MODE, 12);
        Check.due("the timer's bit", timer.spin(9), 1);
        timer.dueException("the timer's bit", 0, Rig.LOOP, 0, 0);
    }

    /** The word at PLACE is not even looked for. */
    private static void dueInterruptFirst(int place, int mode) {
        Rig rig = asked(1, 1, mode);
        rig.x.jump(place);
        Check.due("steps", rig.x.run(5), 1);
        rig.dueException("PLACE " + place, 0, place, 0, 0);
        Check.due("MODE", rig.x.control(Rig.MODE), mode & 8);
    }

    private static void wordIsDone() {
        Rig rig = asked(0, 31, 12);
        Check.due("steps", rig.x.run(1), 1);
        Check.due("the word", rig.x.register(1), 1);
        rig.x.load(68, Rig.op(6, 1, 1, 1));
        rig.x.line(0, true);
        rig.x.line(0, false);
        Check.due("steps", rig.x.run(1), 1);
        Check.due("the word behind it", rig.x.register(1), 2);
    }

    private static void ifOn() {
        for (int time : new int[] {8, 8 | 2}) {
            Rig rig = new Rig();
            rig.control(Rig.TIME, time);
            rig.spin(20);
            Check.due("REST without ON", rig.x.control(Rig.REST), 8);
            Check.due("no timer's bit", rig.x.control(Rig.STATUS), 0);
            rig.control(Rig.TIME, time | 1);
            rig.spin(3);
            Check.due("REST with ON", rig.x.control(Rig.REST), 4);
        }
    }

    private static void oneLess() {
        Rig rig = new Rig();
        rig.control(Rig.TIME, 8 | 1);
        for (int rest = 7; rest > 0; rest--) {
            Check.due("REST", rig.x.control(Rig.REST), rest);
            rig.spin(1);
        }
        for (int n = 0; n < 5; n++) {
            Check.due("REST stays 0", rig.x.control(Rig.REST), 0);
            rig.spin(1);
        }
        Rig longest = new Rig();
        longest.control(Rig.TIME, 0xFFFD);
        Check.due("the longest", longest.x.control(Rig.REST), 65531);
        for (int n = 0; n < 32; n++) {
            longest.spin(2000);
        }
        Check.due("after 64000 more", longest.x.control(Rig.REST), 1531);
        longest.spin(1530);
        Check.due("all but one", longest.x.control(Rig.STATUS), 0);
        longest.spin(1);
        Check.due("at its end", longest.x.control(Rig.STATUS), Rig.TIMER_BIT);
    }

    private static void bitIsSet() {
        Rig rig = new Rig();
        rig.x.line(1, true);
        rig.control(Rig.TIME, 4 | 1);
        rig.spin(2);
        Check.due("REST 1", rig.x.control(Rig.REST), 1);
        Check.due("no bit yet", rig.x.control(Rig.STATUS), 2);
        rig.spin(1);
        Check.due("REST 0", rig.x.control(Rig.REST), 0);
        Check.due("the bit", rig.x.control(Rig.STATUS), 2 | Rig.TIMER_BIT);
        rig.spin(9);
        Check.due("it stays", rig.x.control(Rig.STATUS), 2 | Rig.TIMER_BIT);
        rig.control(Rig.STATUS, Rig.TIMER_BIT);
        rig.spin(9);
        Check.due("REST 0 does not set it again", rig.x.control(Rig.STATUS), 2);
        Rig twice = new Rig();
        twice.control(Rig.TIME, 4 | 3);
        for (int n = 3; n < 20; n++) {
            twice.spin(n == 3 ? 3 : 1);
            Check.due("a bit that is set stays so", twice.x.control(Rig.STATUS), Rig.TIMER_BIT);
        }
        Rig zero = new Rig();
        zero.control(Rig.TIME, 3);
        zero.spin(9);
        Check.due("nor does START 0", zero.x.control(Rig.STATUS), 0);
        Check.due("whose REST stays", zero.x.control(Rig.REST), 0);
    }

    private static void again() {
        Rig rig = new Rig();
        rig.control(Rig.TIME, 8 | 3);
        rig.spin(6);
        Check.due("REST 1", rig.x.control(Rig.REST), 1);
        Check.due("no bit yet", rig.x.control(Rig.STATUS), 0);
        rig.spin(1);
        Check.due("REST is START", rig.x.control(Rig.REST), 8);
        Check.due("and the bit is set", rig.x.control(Rig.STATUS), Rig.TIMER_BIT);
        rig.control(Rig.STATUS, Rig.TIMER_BIT);
        Check.due("taken away", rig.x.control(Rig.STATUS), 0);
        rig.spin(5);
        Check.due("REST 1 again", rig.x.control(Rig.REST), 1);
        rig.spin(1);
        Check.due("START again", rig.x.control(Rig.REST), 8);
        Check.due("the bit again", rig.x.control(Rig.STATUS), Rig.TIMER_BIT);
        Rig once = new Rig();
        once.control(Rig.TIME, 8 | 1);
        once.spin(7);
        Check.due("without AGAIN", once.x.control(Rig.REST), 0);
    }

    /** What the word does to the timer comes before the timer itself. */
    private static void timerComesLast() {
        Rig rig = new Rig();
        rig.control(Rig.TIME, 5);
        Check.due("the step that writes TIME counts", rig.x.control(Rig.REST), 3);
        Rig taken = new Rig();
        taken.ring();
        taken.control(Rig.TIME, 12 | 1);
        taken.set(7, Rig.TIMER_BIT);
        taken.spin(9);
        Check.due("REST 1", taken.x.control(Rig.REST), 1);
        taken.exec(19, 7, 0, Rig.STATUS);
        Check.due("taken and set in one step", taken.x.control(Rig.STATUS), Rig.TIMER_BIT);
        Rig written = new Rig();
        written.set(7, 0);
        written.set(6, 9);
        written.exec(19, 6, 0, Rig.TIME);
        written.spin(6);
        Check.due("REST 1", written.x.control(Rig.REST), 1);
        written.exec(19, 7, 0, Rig.TIME);
        Check.due("put off in the last step", written.x.control(Rig.STATUS), 0);
        Rig read = new Rig();
        read.control(Rig.TIME, 5);
        read.spin(2);
        read.exec(18, 1, 0, Rig.STATUS);
        Check.due("the word sees no bit yet", read.x.register(1), 0);
        Check.due("which is set behind it", read.x.control(Rig.STATUS), Rig.TIMER_BIT);
        Rig late = new Rig();
        late.control(Rig.MASK, 16);
        late.control(Rig.MODE, 12);
        late.control(Rig.TIME, 5);
        Check.due("the bit interrupts in the step behind it", late.spin(9), 4);
    }

    private static void timerOfEachKindOfStep() {
        Rig rig = new Rig();
        rig.control(Rig.MASK, 1);
        rig.control(Rig.TIME, 41);
        int rest = rig.x.control(Rig.REST);
        rig.exec(16, 0, 0, 0);
        Check.due("an exception", rig.x.control(Rig.REST), rest - 1);
        rig.x.jump(3);
        rig.x.run(1);
        Check.due("a PLACE without a word", rig.x.control(Rig.REST), rest - 2);
        rig.exec(27, 0, 0, 0);
        Check.due("the instruction REST", rig.x.control(Rig.REST), rest - 3);
        rig.x.run(2);
        Check.due("two steps of rest", rig.x.control(Rig.REST), rest - 5);
        rig.x.line(0, true);
        rig.x.run(1);
        Check.due("the step that wakes", rig.x.control(Rig.REST), rest - 6);
        rig.set(7, 12);
        rig.exec(19, 7, 0, Rig.MODE);
        rig.x.run(1);
        Check.due("an interrupt", rig.x.control(Rig.REST), rest - 9);
        rig.dueException("which it was", 0, Rig.BEHIND, 3, 0);
        Rig sleeper = new Rig();
        sleeper.control(Rig.MASK, 16);
        sleeper.control(Rig.TIME, 13);
        sleeper.exec(27, 0, 0, 0);
        sleeper.x.run(10);
        Check.due("rests until the timer's bit", sleeper.x.state(), 1);
        Check.due("which is there", sleeper.x.control(Rig.STATUS), Rig.TIMER_BIT);
        sleeper.x.run(1);
        Check.due("and wakes in the step behind it", sleeper.x.state(), 0);
    }
}
