import java.util.function.Consumer;

/** A call that throws changes nothing, and neither does a call that only looks. */
final class ThrowTest {
    private static String before;

    public static void main(String[] args) {
        before = Rig.view(busyMachine());
        unchanged("code, core", m -> m.code(3, 0, 0, 0));
        unchanged("code, operation", m -> m.code(0, 8, 0, 0));
        unchanged("code, register", m -> m.code(0, 0, 4, 0));
        unchanged("poke, address", m -> m.poke(8, 1));
        unchanged("poke, a word that a core has", m -> m.poke(2, 1));
        unchanged("poke, a word in flight", m -> m.poke(5, 1));
        unchanged("step", m -> m.step(3));
        unchanged("drain", m -> m.drain(3));
        unchanged("grant", m -> m.grant(3));
        unchanged("fill", m -> m.fill(-1));
        unchanged("register", m -> m.register(0, 4));
        unchanged("storeAddress", m -> m.storeAddress(0, 4));
        unchanged("storeValue", m -> m.storeValue(0, 4));
        unchanged("line", m -> m.line(0, 2));
        unchanged("cached, address", m -> m.cached(0, 8));
        unchanged("cached, none", m -> m.cached(0, 4));
        unchanged("memory", m -> m.memory(8));
        unchanged("word", m -> m.word(-1));
        unchanged("event", m -> m.event(99));
        unchanged("eventValue", m -> m.eventValue(-1));
        refusedCodeIsNotRun();
        looksChangeNothing();
        Check.end();
    }

    /** Core 0 has 2 in M and a store buffered, core 1 has 5 in flight, core 2 waits for 5. */
    private static BufferedCores busyMachine() {
        BufferedCores m = new BufferedCores(2);
        Rig.write(m, 0, 2, 20);
        Rig.buffer(m, 0, 3, 30);
        Rig.askToRead(m, 1, 5);
        m.grant(1);
        Rig.askToOwn(m, 2, 5, 50);
        return m;
    }

    private static void unchanged(String what, Consumer<BufferedCores> call) {
        BufferedCores m = busyMachine();
        boolean threw = false;
        try {
            call.accept(m);
        } catch (RuntimeException e) {
            threw = true;
        }
        Check.due(what + " throws", threw, true);
        Check.due("the state behind " + what, Rig.view(m), before);
    }

    private static void refusedCodeIsNotRun() {
        BufferedCores m = new BufferedCores(1);
        Check.throwing("code", IllegalArgumentException.class, () -> m.code(0, Rig.SET, 4, 1));
        Check.due("step", m.step(0), BufferedCores.ENDED);
        Check.due("code", m.code(0, Rig.SET, 3, 1), 1);
    }

    private static void looksChangeNothing() {
        BufferedCores m = busyMachine();
        Rig.view(m);
        Check.due("the state behind a look", Rig.view(m), before);
    }
}
