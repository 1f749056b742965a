import java.util.NoSuchElementException;
import java.util.function.BiConsumer;
import java.util.function.Consumer;

/** Terms: what is thrown before anything else, and that a call that throws changes nothing. */
final class RefusalEdgesTest {
    private static final Class<IndexOutOfBoundsException> INDEX = IndexOutOfBoundsException.class;
    private static final Class<IllegalArgumentException> ARGUMENT = IllegalArgumentException.class;
    private static final Class<IllegalStateException> STATE = IllegalStateException.class;
    private static final Class<NoSuchElementException> NONE = NoSuchElementException.class;

    private static String before;
    private static String afterwards;

    public static void main(String[] args) {
        BufferedCores untouched = busyMachine();
        before = Rig.view(untouched);
        afterwards = goesOn(untouched);
        wrongCores();
        wrongNumbers();
        wrongStates();
        agedEvents();
        looksChangeNothing();
        Check.end();
    }

    /** The other numbers are wrong too, or would be refused for the state: the core's number comes first. */
    private static void wrongCores() {
        Check.sentence("All calls with a number of a core throw IndexOutOfBoundsException when it is not 0 .. 2, before anything else.");
        wrongCore("code", (m, core) -> m.code(core, 0, 0, 0));
        wrongCore("code, a wrong operation", (m, core) -> m.code(core, 8, 0, 0));
        wrongCore("code, a wrong register", (m, core) -> m.code(core, 0, 4, -1));
        wrongCore("step", (m, core) -> m.step(core));
        wrongCore("drain", (m, core) -> m.drain(core));
        wrongCore("grant", (m, core) -> m.grant(core));
        wrongCore("fill", (m, core) -> m.fill(core));
        wrongCore("register", (m, core) -> m.register(core, 0));
        wrongCore("register, a wrong one", (m, core) -> m.register(core, 4));
        wrongCore("place", (m, core) -> m.place(core));
        wrongCore("buffered", (m, core) -> m.buffered(core));
        wrongCore("storeAddress", (m, core) -> m.storeAddress(core, 0));
        wrongCore("storeAddress, none", (m, core) -> m.storeAddress(core, -1));
        wrongCore("storeValue", (m, core) -> m.storeValue(core, 0));
        wrongCore("storeValue, none", (m, core) -> m.storeValue(core, -1));
        wrongCore("line", (m, core) -> m.line(core, 0));
        wrongCore("line, a wrong one", (m, core) -> m.line(core, 2));
        wrongCore("cached", (m, core) -> m.cached(core, 2));
        wrongCore("cached, a wrong address", (m, core) -> m.cached(core, 8));
        wrongCore("cached, none", (m, core) -> m.cached(core, 4));
        wrongCore("request", (m, core) -> m.request(core));
    }

    private static void wrongCore(String what, BiConsumer<BufferedCores, Integer> call) {
        for (int core : Rig.outside(2)) {
            unchanged(what + " of core " + core, INDEX, m -> call.accept(m, core));
        }
    }

    private static void wrongNumbers() {
        Check.sentence("A call that throws changes nothing.");
        for (int op : Rig.outside(7)) {
            unchanged("code, operation " + op, ARGUMENT, m -> m.code(1, op, 0, 0));
        }
        for (int r : Rig.outside(3)) {
            unchanged("code, a is " + r, ARGUMENT, m -> m.code(1, Rig.SET, r, 0));
            unchanged("code, b is " + r, ARGUMENT, m -> m.code(1, Rig.LOAD, 0, r));
            unchanged("register " + r, ARGUMENT, m -> m.register(0, r));
        }
        for (int b : Rig.outside(15)) {
            unchanged("code, BRANCH to " + b, ARGUMENT, m -> m.code(1, Rig.BRANCH, 0, b));
        }
        for (int x : Rig.outside(7)) {
            unchanged("poke " + x, ARGUMENT, m -> m.poke(x, 1));
            unchanged("cached " + x, ARGUMENT, m -> m.cached(0, x));
            unchanged("memory " + x, ARGUMENT, m -> m.memory(x));
            unchanged("word " + x, ARGUMENT, m -> m.word(x));
        }
        for (int i : Rig.outside(1)) {
            unchanged("line " + i, ARGUMENT, m -> m.line(0, i));
        }
    }

    private static void wrongStates() {
        Check.sentence("A call that throws changes nothing.");
        unchanged("code, a full program", STATE, m -> m.code(0, Rig.SET, 0, 9));
        unchanged("code, a full program and a wrong operation", ARGUMENT, m -> m.code(0, 8, 0, 9));
        unchanged("poke, a core has it", STATE, m -> m.poke(2, 1));
        unchanged("poke, it is in flight", STATE, m -> m.poke(5, 1));
        unchanged("storeAddress, none", NONE, m -> m.storeAddress(0, 2));
        unchanged("storeAddress, an empty buffer", NONE, m -> m.storeAddress(1, 0));
        unchanged("storeValue, none", NONE, m -> m.storeValue(0, 2));
        unchanged("storeValue, an empty buffer", NONE, m -> m.storeValue(1, 0));
        unchanged("cached, none", NONE, m -> m.cached(0, 4));
        unchanged("cached, in flight", NONE, m -> m.cached(1, 5));
        unchanged("event, none", NONE, m -> m.event(1));
        unchanged("event, below 0", NONE, m -> m.event(-1));
        unchanged("eventValue, none", NONE, m -> m.eventValue(1));
        unchanged("eventValue, below 0", NONE, m -> m.eventValue(-1));
    }

    /** 41 loads: the first of them is not in the log any more. */
    private static void agedEvents() {
        Check.sentence("A call that throws changes nothing.");
        BufferedCores m = new BufferedCores(1);
        m.code(0, Rig.SET, 2, 1);
        m.code(0, Rig.STORE, 0, 2);
        m.code(0, Rig.LOAD, 1, 0);
        m.code(0, Rig.BRANCH, 2, 2);
        for (int i = 0; i < 2 + 2 * 41; i++) {
            m.step(0);
        }
        String seen = Rig.view(m);
        Check.throwing("event", NONE, () -> m.event(0));
        Check.throwing("eventValue", NONE, () -> m.eventValue(0));
        Check.due("the state behind them", Rig.view(m), seen);
    }

    private static void looksChangeNothing() {
        Check.sentence("Nothing is promised beyond the answers and state changes described above");
        BufferedCores m = busyMachine();
        Rig.view(m);
        Check.due("the state behind a look", Rig.view(m), before);
        Check.due("what is done behind a look", goesOn(m), afterwards);
    }

    private static void unchanged(String what, Class<? extends RuntimeException> want, Consumer<BufferedCores> call) {
        BufferedCores m = busyMachine();
        Check.throwing(what, want, () -> call.accept(m));
        Check.due("the state behind " + what, Rig.view(m), before);
        Check.due("what is done behind " + what, goesOn(m), afterwards);
    }

    /** Core 0 has 2 in M, a full program and a full buffer; core 1 has 5 in flight, core 2 waits for 5. */
    private static BufferedCores busyMachine() {
        BufferedCores m = new BufferedCores(2);
        Rig.write(m, 0, 2, 20);
        Rig.buffer(m, 0, 3, 30);
        Rig.run(m, 0, Rig.STORE, 1, 0);
        for (int i = 7; i < 16; i++) {
            m.code(0, Rig.SET, i % 4, i);
        }
        Rig.askToRead(m, 1, 5);
        m.grant(1);
        Rig.askToOwn(m, 2, 5, 50);
        return m;
    }

    /** The programs run to their ends: what cannot be looked at shows in what they do. */
    private static String goesOn(BufferedCores m) {
        StringBuilder out = new StringBuilder();
        for (int core = 0; core < 3; core++) {
            for (int i = 0; i < 10; i++) {
                out.append(m.fill(core)).append(m.step(core)).append(m.drain(core)).append(m.grant(core)).append(' ');
            }
            out.append(m.place(core)).append(' ');
        }
        for (int core = 1; core < 3; core++) {
            out.append(m.code(core, Rig.HALT, 0, 0)).append(' ');
        }
        return out.append(Rig.view(m)).toString();
    }
}
