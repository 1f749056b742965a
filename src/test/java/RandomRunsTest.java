import java.util.Random;

/** All promises: long runs of calls, drawn with fixed seeds, answered as the model answers them. */
final class RandomRunsTest {
    private static final int RUNS = 6000;
    private static final String[] LOOKS = {"register", "place", "buffered", "storeAddress", "storeValue", "line",
        "cached", "request", "memory", "word", "events", "event", "eventValue"};
    /** Loads, stores and swaps come often, and a program seldom halts. */
    private static final int[] OPERATIONS = {0, 1, 3, 0, 1, 3, 0, 1, 3, 0, 1, 3, 0, 1, 3, 0, 1, 3, 0, 1, 3,
        2, 2, 4, 4, 4, 5, 5, 5, 5, 5, 5, 5, 6, 6, 7};
    private static final int[] ODD = {-1, 2, 3, 4, 8, 16, Integer.MIN_VALUE, Integer.MAX_VALUE};

    private final Random random;
    private final Pair pair;
    private final int words;
    private final int looks;
    private int core = 0;
    private int events = 0;

    private RandomRunsTest(long seed) {
        random = new Random(seed);
        pair = new Pair(random.nextInt(8) - 1);
        words = 1 + random.nextInt(8);
        looks = random.nextBoolean() ? 40 : 10;
    }

    public static void main(String[] args) {
        for (int seed = 0; seed < RUNS; seed++) {
            if (!new RandomRunsTest(seed).agrees(seed)) {
                break;
            }
        }
        Check.end();
    }

    private boolean agrees(int seed) {
        boolean same = true;
        for (int i = 0; same && i < Pair.MOST_CALLS; i++) {
            core = random.nextInt(3);
            same = i >= 30 && i < 36 ? loopsBack(seed, i) : drawn(seed, i < 30 ? "code" : nextName());
        }
        return same;
    }

    private boolean drawn(int seed, String name) {
        return agrees(seed, name, numbers(name));
    }

    /** So that the programs do not end soon: each core sets a register and branches on it to its beginning. */
    private boolean loopsBack(int seed, int i) {
        int core = i % 3;
        return agrees(seed, "code", i < 33 ? new int[] {core, 5, 2, 1} : new int[] {core, 6, 2, 0});
    }

    private boolean agrees(int seed, String name, int[] n) {
        boolean same = pair.agrees("seed " + seed, name, n[0], n[1], n[2], n[3]);
        events = pair.ask("events", 0);
        return same;
    }

    /** Half of the runs look seldom and serve the bus soon: they come far enough to fill the log. */
    private String nextName() {
        if (random.nextInt(100) < looks) {
            return LOOKS[random.nextInt(LOOKS.length)];
        }
        int asked = pair.ask("request", core);
        if (asked != 0 && random.nextInt(100) > 2 * looks) {
            return (asked & 4) == 0 ? "grant" : "fill";
        }
        int draw = random.nextInt(60);
        if (draw < 26) {
            return "step";
        }
        if (draw < 36) {
            return "drain";
        }
        if (draw < 47) {
            return "grant";
        }
        if (draw < 56) {
            return "fill";
        }
        return draw < 59 ? "poke" : "code";
    }

    private int[] numbers(String name) {
        int[] n = {core, random.nextInt(4), random.nextInt(4), random.nextInt(4)};
        switch (name) {
            case "code":
                n[1] = OPERATIONS[random.nextInt(OPERATIONS.length)];
                n[3] = n[1] == 5 ? random.nextInt(words) : n[1] == 6 ? random.nextInt(16) : n[3];
                break;
            case "poke":
            case "memory":
            case "word":
                n[0] = random.nextInt(words);
                break;
            case "line":
                n[1] = random.nextInt(2);
                break;
            case "cached":
                n[1] = random.nextInt(words);
                break;
            case "event":
            case "eventValue":
                n[0] = random.nextInt(4) == 0 ? events - 42 + random.nextInt(4) : events - 42 + random.nextInt(50);
                break;
            default:
                break;
        }
        if (random.nextInt(30) == 0) {
            n[random.nextInt(4)] = ODD[random.nextInt(ODD.length)];
        }
        return n;
    }
}
