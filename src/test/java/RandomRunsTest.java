import java.util.Random;

/** All promises: long runs of calls, drawn with fixed seeds, answered as the model answers them. */
final class RandomRunsTest {
    private static final int RUNS = 6000;
    private static final int CALLS = 512;
    private static final String[] LOOKS = {"register", "place", "buffered", "storeAddress", "storeValue", "line",
        "cached", "request", "memory", "word", "events", "event", "eventValue"};
    private static final int[] ODD = {-1, 3, 4, 8, 16, Integer.MIN_VALUE, Integer.MAX_VALUE};

    private final Random random;
    private final Model model;
    private final BufferedCores machine;
    private final int words;
    private int events = 0;

    private RandomRunsTest(long seed) {
        random = new Random(seed);
        int stores = random.nextInt(8) - 1;
        model = new Model(stores);
        machine = new BufferedCores(stores);
        words = 1 + random.nextInt(8);
    }

    public static void main(String[] args) {
        for (int seed = 0; seed < RUNS; seed++) {
            if (!new RandomRunsTest(seed).agrees(seed)) {
                break;
            }
        }
        Check.end();
    }

    private boolean agrees(int seed) {
        for (int i = 0; i < CALLS; i++) {
            String name = i < 40 ? "code" : nextName();
            int[] n = numbers(name);
            String want = answer(() -> model.call(name, n[0], n[1], n[2], n[3]));
            String got = answer(() -> machineCall(name, n[0], n[1], n[2], n[3]));
            events = name.equals("events") ? model.call(name, 0, 0, 0, 0) : events;
            if (!got.equals(want)) {
                String call = name + "(" + n[0] + ", " + n[1] + ", " + n[2] + ", " + n[3] + ")";
                Check.due("seed " + seed + ", call " + i + ": " + call, got, want);
                return false;
            }
        }
        return true;
    }

    private String nextName() {
        int draw = random.nextInt(100);
        if (draw < 25) {
            return "step";
        }
        if (draw < 35) {
            return "drain";
        }
        if (draw < 46) {
            return "grant";
        }
        if (draw < 54) {
            return "fill";
        }
        if (draw < 57) {
            return "poke";
        }
        return draw < 58 ? "code" : LOOKS[random.nextInt(LOOKS.length)];
    }

    private int[] numbers(String name) {
        int[] n = {random.nextInt(3), random.nextInt(4), random.nextInt(4), random.nextInt(4)};
        switch (name) {
            case "code":
                n[1] = random.nextInt(28) == 0 ? 7 : random.nextInt(7);
                n[3] = n[1] == 5 ? random.nextInt(words) : n[1] == 6 ? random.nextInt(16) : n[3];
                break;
            case "poke":
            case "memory":
            case "word":
                n[0] = random.nextInt(words);
                break;
            case "line":
                n[1] = random.nextInt(2);
                break;
            case "cached":
                n[1] = random.nextInt(words);
                break;
            case "event":
            case "eventValue":
                n[0] = events - 42 + random.nextInt(50);
                break;
            default:
                break;
        }
        if (random.nextInt(30) == 0) {
            n[random.nextInt(4)] = ODD[random.nextInt(ODD.length)];
        }
        return n;
    }

    private int machineCall(String name, int p, int q, int r, int s) {
        BufferedCores m = machine;
        switch (name) {
            case "code": return m.code(p, q, r, s);
            case "poke": m.poke(p, q); return 0;
            case "step": return m.step(p);
            case "drain": return m.drain(p);
            case "grant": return m.grant(p);
            case "fill": return m.fill(p);
            case "register": return m.register(p, q);
            case "place": return m.place(p);
            case "buffered": return m.buffered(p);
            case "storeAddress": return m.storeAddress(p, q);
            case "storeValue": return m.storeValue(p, q);
            case "line": return m.line(p, q);
            case "cached": return m.cached(p, q);
            case "request": return m.request(p);
            case "memory": return m.memory(p);
            case "word": return m.word(p);
            case "events": return m.events();
            case "event": return m.event(p);
            case "eventValue": return m.eventValue(p);
            default: throw new AssertionError(name);
        }
    }

    private static String answer(java.util.function.IntSupplier call) {
        try {
            return Integer.toString(call.getAsInt());
        } catch (RuntimeException e) {
            return "throws." + e.getClass().getSimpleName();
        }
    }
}
