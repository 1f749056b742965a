import java.util.function.IntSupplier;

/** An object and the model, both called alike: each answer of the object has to be the model's. */
final class Pair {
    static final int MOST_CALLS = 512;

    private final Model model;
    private final BufferedCores machine;
    private int calls = 0;

    Pair(int stores) {
        model = new Model(stores);
        machine = new BufferedCores(stores);
    }

    int calls() {
        return calls;
    }

    /** What the model answers; the object is not called. */
    int ask(String name, int p) {
        return model.call(name, p, 0, 0, 0);
    }

    /** Numbers that the call has not are not looked at. */
    boolean agrees(String run, String name, int p, int q, int r, int s) {
        calls++;
        if (calls > MOST_CALLS) {
            throw new AssertionError("an object is used for at most " + MOST_CALLS + " calls");
        }
        String want = answer(() -> model.call(name, p, q, r, s));
        String got = answer(() -> machineCall(name, p, q, r, s));
        if (!got.equals(want)) {
            String call = name + "(" + p + ", " + q + ", " + r + ", " + s + ")";
            Check.due(run + ", call " + calls + ": " + call, got, want);
        }
        return got.equals(want);
    }

    private int machineCall(String name, int p, int q, int r, int s) {
        BufferedCores m = machine;
        switch (name) {
            case "code": return m.code(p, q, r, s);
            case "poke": m.poke(p, q); return 0;
            case "step": return m.step(p);
            case "drain": return m.drain(p);
            case "grant": return m.grant(p);
            case "fill": return m.fill(p);
            case "register": return m.register(p, q);
            case "place": return m.place(p);
            case "buffered": return m.buffered(p);
            case "storeAddress": return m.storeAddress(p, q);
            case "storeValue": return m.storeValue(p, q);
            case "line": return m.line(p, q);
            case "cached": return m.cached(p, q);
            case "request": return m.request(p);
            case "memory": return m.memory(p);
            case "word": return m.word(p);
            case "events": return m.events();
            case "event": return m.event(p);
            case "eventValue": return m.eventValue(p);
            default: throw new AssertionError(name);
        }
    }

    private static String answer(IntSupplier call) {
        try {
            return Integer.toString(call.getAsInt());
        } catch (RuntimeException e) {
            return "throws." + e.getClass().getSimpleName();
        }
    }
}
