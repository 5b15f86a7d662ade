/** The terms: the control registers, and which of their bits can be written. */
public final class TermsControlsTest {
    private static final int NO_LEVEL = 0;

    public static void main(String[] args) {
        Check.sentence("0 MODE: bits 0 and 1 LEVEL, 2 ENABLED, 3 DIRECT", TermsControlsTest::mode);
        Check.sentence("1 BEFORE: bits 0 to 2", () -> bits(Rig.BEFORE, 7, 3));
        Check.sentence("2 MASK: bits 0 to 4", () -> bits(Rig.MASK, 31, NO_LEVEL));
        Check.sentence("3 STATUS: bits 0 to 3 the LINES, 4 the TIMER's, 16 to 21 the CODE", TermsControlsTest::status);
        Check.sentence("4 RETURN: all bits", () -> bits(Rig.RETURN, -1, NO_LEVEL));
        Check.sentence("5 ADDRESS: all bits", () -> bits(Rig.ADDRESS, -1, NO_LEVEL));
        Check.sentence("6 ENTRY: all but bits 0, 1", () -> bits(Rig.ENTRY, -4, NO_LEVEL));
        Check.sentence("7 INDEX: bits 0, 1, and 31 EMPTY", () -> bits(Rig.INDEX, 0x80000003, NO_LEVEL));
        Check.sentence("8 HIGH: bits 7 to 31 (a pair)", () -> bits(Rig.HIGH, -128, NO_LEVEL));
        Check.sentence("9 EVEN: bits 0 to 4, 6 to 10", () -> bits(Rig.EVEN, 0x7DF, 12));
        Check.sentence("10 ODD: bits 0 to 4, 6 to 10", () -> bits(Rig.ODD, 0x7DF, 12));
        Check.sentence("11 SPACE: bits 0 to 3", () -> bits(Rig.SPACE, 15, NO_LEVEL));
        Check.sentence("12 KEPT: all bits", () -> bits(Rig.KEPT, -1, NO_LEVEL));
        Check.sentence("13 KEPT: all bits", () -> bits(13, -1, NO_LEVEL));
        Check.sentence("14 TIME: bit 0 ON, 1 AGAIN, 2 to 15 START", () -> bits(Rig.TIME, 0xFFFF, NO_LEVEL));
        Check.sentence("15 REST: not written", TermsControlsTest::restIsNotWritten);
        Check.sentence("16 REFILL: all but bits 0, 1", () -> bits(Rig.REFILL, -4, NO_LEVEL));
        Check.sentence("17 WINDOW: bits 0 (level 0), 3 (level 3), 28 to 31",
            () -> bits(Rig.WINDOW, 0xF0000009, NO_LEVEL));
        Check.sentence("LEVEL (0 or 3; written 1 or 2 count as 3)", TermsControlsTest::levelOfMode);
        Check.sentence("LEVEL and ENABLED as for MODE", TermsControlsTest::levelOfBefore);
        Check.sentence("2 and 3 LEVEL (0 or 3, written likewise)", TermsControlsTest::levelOfHalves);
        Check.sentence("of what is written bit 4 alone counts: it takes the timer's bit away",
            TermsControlsTest::timersBitIsTaken);
        Check.sentence("when it is written, REST becomes START (bits 2 to 15 of it)", TermsControlsTest::restBecomesStart);
        Check.sentence("At first MODE is 8, all others are 0", TermsControlsTest::atFirst);
        Check.end();
    }

    /** Each bit by itself, set and taken away, by instruction 19 and by instruction 20. */
    private static void bits(int k, int counting, int level) {
        for (int i = 0; i < 32; i++) {
            int bit = 1 << i;
            int alone = (level & bit) != 0 ? level : counting & bit;
            int others = (level & bit) != 0 ? counting : counting & ~bit;
            String what = "control " + k + ", bit " + i;
            Rig rig = new Rig();
            rig.control(k, bit);
            Check.due(what + " written alone", rig.x.control(k), alone);
            rig.control(k, -1);
            Check.due(what + " written with all", rig.x.control(k), counting);
            rig.control(k, ~bit);
            Check.due(what + " alone not written", rig.x.control(k), others);
            rig.control(k, 0);
            Check.due(what + " taken away with all", rig.x.control(k), 0);
            rig.controlBits(k, -1, bit);
            Check.due(what + " set by 20", rig.x.control(k), alone);
            rig.control(k, -1);
            rig.controlBits(k, 0, bit);
            Check.due(what + " taken away by 20", rig.x.control(k), others);
            rig.controlBits(k, 0, -1);
            Check.due(what + " taken away with all by 20", rig.x.control(k), 0);
        }
    }

    /** MODE can't be written from level 3, so each write has a machine of its own. */
    private static void mode() {
        for (int i = 0; i < 32; i++) {
            int bit = 1 << i;
            dueMode(bit, -1, i <= 1 ? 3 : bit & 12);
            dueMode(~bit, -1, i <= 1 ? 15 : 15 & ~bit);
            dueMode(-1, bit, 8 | (i <= 1 ? 3 : bit & 12));
            dueMode(0, bit, 8 & ~bit);
            dueMode(-1, ~bit, i <= 1 ? 15 : 15 & ~bit | 8);
        }
        dueMode(0, -1, 0);
        dueMode(-1, -1, 15);
        dueMode(12, -1, 12);
        Rig rig = new Rig();
        rig.control(Rig.MODE, 12);
        rig.controlBits(Rig.MODE, 0, ~4);
        Check.due("ENABLED stays", rig.x.control(Rig.MODE), 4);
    }

    private static void dueMode(int value, int bits, int want) {
        Rig rig = new Rig();
        if (bits == -1) {
            rig.control(Rig.MODE, value);
        } else {
            rig.controlBits(Rig.MODE, value, bits);
        }
        Check.due("MODE written " + value + " by " + bits, rig.x.control(Rig.MODE), want);
        Check.due("its old value", rig.x.register(7), 8);
    }

    private static void status() {
        Rig rig = new Rig();
        for (int k = 0; k <= 3; k++) {
            rig.x.line(k, true);
            Check.due("line " + k, rig.x.control(Rig.STATUS), 1 << k);
            rig.x.line(k, false);
        }
        rig.ring();
        Check.due("the timer", rig.x.control(Rig.STATUS), 16);
        rig.exec(17, 0, 0, 0);
        Check.due("code 12", rig.x.control(Rig.STATUS), 16 | 12 << 16);
        rig.control(Rig.MODE, 0);
        rig.x.run(1);
        Check.due("code 63", rig.x.control(Rig.STATUS), 16 | 63 << 16);
        rig.exec(16, 0, 0, 0);
        Check.due("code 11 in its place", rig.x.control(Rig.STATUS), 16 | 11 << 16);
    }

    /** All lines are up, the timer's bit is set, and so are all bits of the code. */
    private static Rig withFullStatus() {
        Rig rig = new Rig();
        for (int k = 0; k <= 3; k++) {
            rig.x.line(k, true);
        }
        rig.ring();
        rig.control(Rig.MODE, 0);
        rig.x.run(1);
        Check.due("STATUS", rig.x.control(Rig.STATUS), 31 | 63 << 16);
        return rig;
    }

    private static void timersBitIsTaken() {
        int taken = 15 | 63 << 16;
        int full = taken | Rig.TIMER_BIT;
        Rig none = new Rig();
        for (int i = 0; i < 32; i++) {
            int bit = 1 << i;
            Rig rig = withFullStatus();
            rig.control(Rig.STATUS, bit);
            Check.due("bit " + i + " by 19", rig.x.control(Rig.STATUS), i == 4 ? taken : full);
            Check.due("the old value", rig.x.register(7), full);
            Rig other = withFullStatus();
            other.controlBits(Rig.STATUS, -1, bit);
            Check.due("bit " + i + " by 20", other.x.control(Rig.STATUS), i == 4 ? taken : full);
            none.control(Rig.STATUS, bit);
            Check.due("bit " + i + " is not set", none.x.control(Rig.STATUS), 0);
        }
        Rig rig = withFullStatus();
        rig.control(Rig.STATUS, ~Rig.TIMER_BIT);
        Check.due("all but bit 4", rig.x.control(Rig.STATUS), full);
        rig.controlBits(Rig.STATUS, ~Rig.TIMER_BIT, -1);
        Check.due("bit 4 as 0 by 20", rig.x.control(Rig.STATUS), full);
        rig.controlBits(Rig.STATUS, -1, ~Rig.TIMER_BIT);
        Check.due("bit 4 not among those of b", rig.x.control(Rig.STATUS), full);
        rig.control(Rig.STATUS, -1);
        Check.due("all bits", rig.x.control(Rig.STATUS), taken);
        rig.control(Rig.STATUS, -1);
        Check.due("which does not set it again", rig.x.control(Rig.STATUS), taken);
    }

    private static void levelOfMode() {
        for (int level = 0; level <= 3; level++) {
            Rig rig = new Rig();
            rig.control(Rig.MODE, 8 | level);
            Check.due("MODE " + level, rig.x.control(Rig.MODE), level == 0 ? 8 : 11);
            rig.exec(18, 1, 0, 0);
            Check.due("what it allows", rig.code(), level == 0 ? 0 : 14);
            Check.due("BEFORE", rig.x.control(Rig.BEFORE), level == 0 ? 0 : 3);
        }
    }

    private static void levelOfBefore() {
        for (int written = 0; written <= 7; written++) {
            int counted = (written & 3) == 0 ? written : written | 3;
            Rig rig = new Rig();
            rig.control(Rig.BEFORE, written);
            Check.due("BEFORE " + written, rig.x.control(Rig.BEFORE), counted);
            rig.exec(26, 0, 0, 0);
            Check.due("MODE after BACK", rig.x.control(Rig.MODE), 8 | counted);
        }
        Rig rig = new Rig();
        rig.control(Rig.BEFORE, 7);
        rig.controlBits(Rig.BEFORE, 0, 1);
        Check.due("2 is left, by 20", rig.x.control(Rig.BEFORE), 7);
        rig.controlBits(Rig.BEFORE, 0, 2);
        Check.due("1 is left, by 20", rig.x.control(Rig.BEFORE), 7);
        rig.controlBits(Rig.BEFORE, 0, 3);
        Check.due("0 is left, by 20", rig.x.control(Rig.BEFORE), 4);
    }

    private static void levelOfHalves() {
        for (int k = Rig.EVEN; k <= Rig.ODD; k++) {
            for (int level = 0; level <= 3; level++) {
                Rig rig = new Rig();
                rig.control(k, level << 2);
                Check.due("control " + k + ", level " + level, rig.x.control(k), level == 0 ? 0 : 12);
                rig.exec(23, 0, 0, 0);
                Check.due("the entry's", rig.x.entry(0, k == Rig.EVEN ? 4 : 5), level == 0 ? 0 : 12);
            }
        }
        for (int level = 1; level <= 3; level++) {
            Probe probe = new Probe();
            probe.rig.entry(1, 4096, 0, Rig.half(20, level << 2 | 1), 0);
            probe.dueReached(Probe.LOAD, 4096, 3, 20 * 64);
        }
    }

    private static void restIsNotWritten() {
        for (int i = 0; i < 32; i++) {
            Rig rig = new Rig();
            rig.control(Rig.TIME, 400);
            rig.control(Rig.REST, 1 << i);
            Check.due("REST after bit " + i, rig.x.control(Rig.REST), 400);
            Check.due("a gets it", rig.x.register(7), 400);
            rig.control(Rig.REST, ~(1 << i));
            Check.due("REST after all but bit " + i, rig.x.control(Rig.REST), 400);
            rig.controlBits(Rig.REST, -1, 1 << i);
            Check.due("REST after bit " + i + " by 20", rig.x.control(Rig.REST), 400);
        }
    }

    private static void restBecomesStart() {
        for (int i = 0; i < 32; i++) {
            Rig rig = new Rig();
            rig.control(Rig.TIME, (1 << i) & ~1);
            Check.due("REST after bit " + i, rig.x.control(Rig.REST), i >= 2 && i <= 15 ? 1 << i : 0);
        }
        Rig rig = new Rig();
        rig.control(Rig.TIME, -2);
        Check.due("the longest", rig.x.control(Rig.REST), 65532);
        rig.control(Rig.TIME, 40 | 1);
        rig.spin(9);
        Check.due("REST, run down", rig.x.control(Rig.REST), 30);
        rig.exec(18, 1, 0, Rig.TIME);
        Check.due("a look at TIME is no write", rig.x.control(Rig.REST), 29);
        rig.controlBits(Rig.TIME, 0, 1);
        Check.due("START again, when ON alone is written", rig.x.control(Rig.REST), 40);
        rig.controlBits(Rig.TIME, 0, 8);
        Check.due("when START is written in part", rig.x.control(Rig.REST), 32);
        rig.control(Rig.TIME, 0);
        Check.due("the shortest", rig.x.control(Rig.REST), 0);
        rig.control(Rig.TIME, 41);
        rig.spin(5);
        rig.control(Rig.TIME, 41);
        Check.due("the same once more, and the step's own", rig.x.control(Rig.REST), 39);
    }

    private static void atFirst() {
        TrapMachine x = new TrapMachine();
        for (int k = 0; k <= 17; k++) {
            Check.due("control " + k, x.control(k), k == 0 ? 8 : 0);
        }
    }
}
