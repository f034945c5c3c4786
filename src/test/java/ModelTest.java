import java.util.Random;

/** Long runs of calls, made by a counted rule, each answer compared with that of the Model. */
public final class ModelTest {
    private static final int RUNS = 600;
    private static final int CALLS = 512;
    private static final Check check = new Check();

    public static void main(String[] args) {
        for (int run = 0; run < RUNS && !check.anyWrong(); run++) {
            oneRun(run);
        }
        check.end();
    }

    private static void oneRun(int run) {
        Random random = new Random(1000L + run);
        BurinLines b = new BurinLines();
        Model model = new Model();
        boolean evenWays = run % 3 == 0;
        for (int i = 0; i < CALLS; i++) {
            Call call = i < 40 && run % 2 == 0 ? change(random, evenWays) : any(random, evenWays);
            check.due("run " + run + ", call " + i + ", " + call, call.on(b), model.answer(call));
        }
    }

    private static Call any(Random random, boolean evenWays) {
        return random.nextInt(100) < 30 ? change(random, evenWays) : question(random);
    }

    private static int cell(Random random) {
        return random.nextInt(60) == 0 ? odd(random) : random.nextInt(8);
    }

    private static int layer(Random random) {
        return random.nextInt(60) == 0 ? odd(random) : random.nextInt(2);
    }

    /** Numbers beside and far from what is allowed. */
    private static int odd(Random random) {
        int[] odds = {-1, 8, 2, 7, 9, -8, 64, Integer.MIN_VALUE, Integer.MAX_VALUE};
        return odds[random.nextInt(odds.length)];
    }

    private static int tone(Random random) {
        return random.nextInt(4) == 0 ? random.nextInt(103) - 1 : 10 * random.nextInt(11);
    }

    /** Few TURNS make long PATHS, many of them make short ones. */
    private static int turn(Random random, boolean evenWays) {
        if (random.nextInt(40) == 0) {
            return odd(random);
        }
        return evenWays ? 2 * random.nextInt(2) + 4 : random.nextInt(8);
    }

    private static Call change(Random random, boolean evenWays) {
        switch (random.nextInt(12)) {
            case 0: case 1: case 2:
                return Call.of("tone", cell(random), cell(random), tone(random));
            case 3: case 4:
                return box(random);
            case 5: case 6: case 7:
                return Call.of("tell", cell(random), cell(random), turn(random, evenWays));
            case 8: case 9:
                return Call.of("free", cell(random), cell(random));
            case 10:
                return Call.of("even");
            default:
                return setting(random);
        }
    }

    private static Call box(Random random) {
        int x0 = cell(random);
        int y0 = cell(random);
        int x1 = cell(random);
        int y1 = cell(random);
        if (random.nextInt(10) > 0) {
            return Call.of("shade", Math.min(x0, x1), Math.min(y0, y1), Math.max(x0, x1), Math.max(y0, y1), tone(random));
        }
        return Call.of("shade", x0, y0, x1, y1, tone(random));
    }

    private static Call setting(Random random) {
        int what = random.nextInt(6) - 1;
        int[] most = {41, 42, 102, 12, 42, 41};
        int v = random.nextInt(most[what + 1]);
        // Mostly a small SWELL: else it binds hardly any WIDTH.
        return Call.of("set", what, what == 3 && random.nextInt(4) > 0 ? 1 + v % 4 : v);
    }

    private static Call question(Random random) {
        int few = random.nextInt(8);
        int number = random.nextInt(few == 0 ? 66 : 30) - 1;
        switch (random.nextInt(14)) {
            case 0: return Call.of("at", cell(random), cell(random), few % 5 - 1 + few / 7);
            case 1: return Call.of("knot", cell(random), cell(random));
            case 2: return Call.of("wanted", cell(random), cell(random), layer(random));
            case 3: case 4: return Call.of("width", cell(random), cell(random), layer(random));
            case 5: return Call.of("made", cell(random), cell(random));
            case 6: return Call.of("error", few % 4 - 1);
            case 7: return Call.of("paths", layer(random));
            case 8: case 9: return Call.of("path", layer(random), number, few < 7 ? few % 5 : -1);
            case 10: return Call.of("cut", layer(random), number);
            case 11: return Call.of("begin", layer(random), number);
            case 12: return Call.of("air", layer(random));
            default: return Call.of("count", few - 1);
        }
    }
}
