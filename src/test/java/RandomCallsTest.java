import java.util.Random;

/**
 * Long runs of calls that are random, but the same each time: every answer is that of the Model, and nothing but
 * IllegalArgumentException is ever thrown. Says, too, that the runs came through all that can happen.
 */
public final class RandomCallsTest {
    private static final int MACHINES = 20000;
    private static final int ROUNDS = 60;
    /** The document lets later calls be free; the last looks at everything come behind this many. */
    private static final int MOST_CALLS = 340;
    private static final int[] CODES = {0, 1, 2, 3, 4, 7, 8, 9, 11, 12, 13, 14, 63};

    private final Random random;
    private final int seed;
    private final TrapMachine x = new TrapMachine();
    private final Model model = new Model();
    private final StringBuilder calls = new StringBuilder();
    private int wrong = 0;
    private int called = 0;
    private int programmed = 0;

    private static final int[] codesSeen = new int[64];
    private static int stops = 0;
    private static int wakes = 0;
    private static int mapped = 0;

    private RandomCallsTest(int seed) {
        this.seed = seed;
        random = new Random(seed);
    }

    public static void main(String[] args) {
        int wrongMachines = 0;
        for (int seed = 0; seed < MACHINES && wrongMachines < 3; seed++) {
            RandomCallsTest test = new RandomCallsTest(seed);
            if (!test.goesWell()) {
                wrongMachines++;
            }
        }
        Check.due("machines with a wrong answer", wrongMachines, 0);
        for (int code : CODES) {
            Check.due("exception " + code + " often enough", codesSeen[code] > 50 ? 1 : 0, 1);
        }
        Check.due("stops often enough", stops > 50 ? 1 : 0, 1);
        Check.due("rests that ended often enough", wakes > 50 ? 1 : 0, 1);
        Check.due("steps that were mapped often enough", mapped > 1000 ? 1 : 0, 1);
        if (args.length > 0) {
            System.out.println(java.util.Arrays.toString(codesSeen) + " " + stops + " " + wakes + " " + mapped);
        }
        Check.end();
    }

    private boolean goesWell() {
        try {
            for (int i = 0; i < 32; i++) {
                load(4 * i, value());
            }
            if (random.nextInt(4) != 0) {
                startMapped();
            }
            for (int round = 0; round < ROUNDS && wrong == 0 && called < MOST_CALLS; round++) {
                round();
            }
            compare();
        } catch (RuntimeException e) {
            wrong++;
            System.out.println("seed " + seed + ": " + e + " after " + calls);
        }
        return wrong == 0;
    }

    /** Maps the first pairs, mostly to themselves, with handlers that come back, and leaves DIRECT. */
    private void startMapped() {
        programmed = 512;
        for (int e = 0; e < 4; e++) {
            int pair = random.nextInt(12) == 0 ? random.nextInt(4) : e;
            control(Rig.INDEX, e);
            control(Rig.HIGH, 128 * pair);
            control(Rig.SPACE, random.nextInt(5) == 0 ? random.nextInt(16) : 0);
            control(Rig.EVEN, startHalf(2 * pair));
            control(Rig.ODD, startHalf(2 * pair + 1));
            program(word(23, 0, 0, 0));
        }
        control(Rig.SPACE, 0);
        control(Rig.REFILL, 512 - 64);
        control(Rig.ENTRY, 512 - 32);
        load(512 - 64, word(24, 0, 0, 0));
        load(512 - 60, word(26, 0, 0, 0));
        load(512 - 32, instruction());
        load(512 - 28, word(26, 0, 0, 0));
        if (random.nextInt(3) == 0) {
            control(Rig.WINDOW, value());
        }
        int mode = random.nextInt(2) * 3 + random.nextInt(2) * 4;
        program(word(6, 1, 0, mode));
        program(word(19, 1, 0, 0));
        jump(512);
        run(2000);
    }

    private int startHalf(int frame) {
        int bits = random.nextInt(4) == 0 ? random.nextInt(32) : Rig.FREE;
        return (random.nextInt(6) == 0 ? random.nextInt(32) : frame) << 6 | bits;
    }

    private void program(int word) {
        load(programmed, word);
        programmed += 4;
    }

    /** Two instructions that make the low 24 bits of a value, and one that writes it. */
    private void control(int k, int value) {
        program(word(7, 1, value >> 16, value >> 8));
        if ((value & 255) != 0) {
            program(word(6, 1, 1, value & 127));
        }
        if ((value & 128) != 0) {
            program(word(6, 1, 1, 127));
            program(word(6, 1, 1, 1));
        }
        program(word(19, 1, 0, k));
    }

    private void round() {
        switch (random.nextInt(8)) {
            case 0 -> line(random.nextInt(4), random.nextBoolean());
            case 1 -> filled(random.nextInt());
            case 2 -> jump(value());
            case 3 -> load(4 * random.nextInt(512), random.nextBoolean() ? instruction() : value());
            default -> script();
        }
        run(random.nextInt(20) == 0 ? random.nextInt(4000) - 500 : random.nextInt(9));
        if (model.stopped) {
            stops++;
            run(3);
        }
        if (model.stopped || random.nextInt(4) == 0) {
            jump(4 * random.nextInt(128));
        }
    }

    /** Some instructions in a row that are likely to do something. */
    private void script() {
        int at = 4 * (32 + random.nextInt(70));
        int[] words = switch (random.nextInt(6)) {
            case 0 -> new int[] {word(8, 1, 0, data()), word(19, 1, 0, 8), word(8, 1, 0, data()), word(19, 1, 0, 9),
                word(8, 1, 0, data()), word(19, 1, 0, 10), word(23 + random.nextInt(2), 0, 0, 0)};
            case 1 -> new int[] {word(8, 1, 0, data()), word(19, 1, 0, random.nextInt(18)),
                word(8, 2, 0, data()), word(20, 2, 1, random.nextInt(18))};
            case 2 -> new int[] {word(6, 3, 0, random.nextInt(16)), word(19, 3, 0, 0), instruction()};
            case 3 -> new int[] {random.nextBoolean() ? word(8, 4, 0, data()) : word(7, 4, 0, random.nextInt(2)),
                word(8 + random.nextInt(4), 5, 4, data()), word(8 + random.nextInt(4), 5, 4, data())};
            case 4 -> new int[] {word(8, 6, 0, data()), word(19, 6, 0, 2), word(27, 0, 0, 0)};
            default -> new int[] {instruction(), instruction(), instruction()};
        };
        for (int i = 0; i < words.length; i++) {
            load(at + 4 * i, words[i]);
        }
        jump(random.nextInt(6) == 0 ? value() : at);
    }

    private static int word(int code, int a, int b, int c) {
        return code << 24 | (a & 255) << 16 | (b & 255) << 8 | c & 255;
    }

    private int data() {
        return 4 * random.nextInt(32);
    }

    private int instruction() {
        int code = random.nextInt(30) == 0 ? random.nextInt(256) : 1 + random.nextInt(27);
        int c = random.nextInt(256);
        if (code >= 18 && code <= 20 && random.nextInt(9) != 0) {
            c = random.nextInt(18);
        } else if (code == 25 && random.nextInt(9) != 0) {
            c = random.nextInt(5);
        } else if (code >= 8 && code <= 11) {
            c &= random.nextInt(5) == 0 ? 255 : 252;
        }
        return word(code, random.nextInt(256), random.nextInt(256), c);
    }

    /** Values that are likely to mean something: addresses, halves, modes, times, bits. */
    private int value() {
        return switch (random.nextInt(9)) {
            case 0 -> random.nextInt();
            case 1 -> 4 * random.nextInt(512);
            case 2 -> random.nextInt(4) * 128 + 4 * random.nextInt(3);
            case 3 -> random.nextInt(32) << 6 | random.nextInt(64) | random.nextInt(2);
            case 4 -> random.nextInt(16);
            case 5 -> random.nextInt(3) << 28 | random.nextInt(16);
            case 6 -> random.nextInt(3) << 28 | 4 * random.nextInt(520);
            case 7 -> 1 << random.nextInt(32);
            default -> random.nextInt(64);
        };
    }

    private void said(String call) {
        called++;
        calls.append(call).append("; ");
    }

    private void due(String call, long got, long want) {
        if (got != want) {
            wrong++;
            System.out.println("seed " + seed + ": " + call + " answered " + got + ", due is " + want + " after " + calls);
        }
    }

    private void load(int address, int word) {
        said("load(" + address + ", " + word + ")");
        x.load(address, word);
        model.memory[address / 4] = word;
    }

    private void line(int k, boolean up) {
        said("line(" + k + ", " + up + ")");
        x.line(k, up);
        model.asks[k] = up;
    }

    private void filled(int k) {
        said("filled(" + k + ")");
        x.filled(k);
        model.filled = Math.floorMod(k, 4);
    }

    private void jump(int p) {
        said("jump(" + p + ")");
        x.jump(p);
        model.place = p;
        model.rests = false;
        model.stopped = false;
    }

    private void run(int n) {
        said("run(" + n + ")");
        boolean rested = model.rests;
        int back = model.back;
        int want = model.run(n);
        due("run(" + n + ")", x.run(n), want);
        called++;
        due("state()", x.state(), model.stopped ? 2 : model.rests ? 1 : 0);
        if (rested && !model.rests) {
            wakes++;
        }
        if (want > 0 && want < n && !model.stopped || model.back != back) {
            codesSeen[model.code]++;
        }
        if (want > 1 && !model.direct) {
            mapped += want;
        }
    }

    private void compare() {
        for (int k = 0; k <= 17; k++) {
            due("control(" + k + ")", x.control(k), model.control(k));
        }
        for (int k = 0; k <= 7; k++) {
            due("register(" + k + ")", x.register(k), model.r[k]);
        }
        due("register(8)", x.register(8), model.place);
        due("register(9)", x.register(9), model.link ? 1 : 0);
        for (int e = 0; e <= 3; e++) {
            for (int what = 0; what <= 5; what++) {
                due("entry(" + e + ", " + what + ")", x.entry(e, what), model.entryPart(e, what));
            }
        }
        for (int i = seed % 5; i < 512; i += 5) {
            due("word(" + 4 * i + ")", x.word(4 * i), model.memory[i]);
        }
    }
}
