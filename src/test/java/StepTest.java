/** Promise 4: step, instruction by instruction. */
final class StepTest {
    private static final int STOPPED = BufferedCores.STOPPED, DONE = BufferedCores.DONE, ENDED = BufferedCores.ENDED;

    public static void main(String[] args) {
        wrongCores();
        arithmetic();
        branch();
        halt();
        addressBits();
        loadFromBuffer();
        loadFromOnlyStore();
        loadFromLine();
        loadOfOwnAddress();
        loadAsks();
        storeStops();
        fence();
        swapStops();
        swapHits();
        swapMisses();
        swapOfRegisterThree();
        swapOfShared();
        oneRequestOnly();
        Check.end();
    }

    private static void wrongCores() {
        BufferedCores m = new BufferedCores(1);
        for (int core : new int[] {-1, 3, Integer.MIN_VALUE, Integer.MAX_VALUE}) {
            Check.throwing("step of core " + core, IndexOutOfBoundsException.class, () -> m.step(core));
        }
    }

    private static void arithmetic() {
        BufferedCores m = new BufferedCores(1);
        Check.due("SET", Rig.run(m, 1, Rig.SET, 2, Integer.MAX_VALUE), DONE);
        Check.due("r2", m.register(1, 2), Integer.MAX_VALUE);
        Rig.run(m, 1, Rig.SET, 3, 1);
        Check.due("ADD", Rig.run(m, 1, Rig.ADD, 2, 3), DONE);
        Check.due("r2 has wrapped", m.register(1, 2), Integer.MIN_VALUE);
        Check.due("r3 stays", m.register(1, 3), 1);
        Rig.run(m, 1, Rig.ADD, 3, 3);
        Check.due("r3 doubled", m.register(1, 3), 2);
        Check.due("place", m.place(1), 4);
        Check.due("another core's place", m.place(0), 0);
        Check.due("another core's register", m.register(0, 2), 0);
        Check.due("no events", m.events(), 0);
    }

    private static void branch() {
        BufferedCores m = new BufferedCores(1);
        Check.due("BRANCH on 0", Rig.run(m, 0, Rig.BRANCH, 1, 9), DONE);
        Check.due("place", m.place(0), 1);
        Rig.run(m, 0, Rig.SET, 1, -1);
        Check.due("BRANCH on -1", Rig.run(m, 0, Rig.BRANCH, 1, 1), DONE);
        Check.due("place", m.place(0), 1);
        m.step(0);
        Check.due("place", m.place(0), 2);
        m.step(0);
        Check.due("place", m.place(0), 1);

        BufferedCores far = new BufferedCores(1);
        Rig.run(far, 2, Rig.SET, 0, 5);
        Rig.run(far, 2, Rig.BRANCH, 0, 15);
        Check.due("place", far.place(2), 15);
        Check.due("no instruction there", far.step(2), ENDED);
        Check.due("place", far.place(2), 15);
        for (int i = 2; i < 16; i++) {
            far.code(2, Rig.SET, 3, i);
        }
        Check.due("an instruction there now", far.step(2), DONE);
        Check.due("r3", far.register(2, 3), 15);
    }

    private static void halt() {
        BufferedCores m = new BufferedCores(1);
        Check.due("HALT", Rig.run(m, 0, Rig.HALT, 0, 0), ENDED);
        Check.due("HALT again", m.step(0), ENDED);
        Check.due("place", m.place(0), 0);
    }

    private static void addressBits() {
        BufferedCores m = new BufferedCores(4);
        int[] registers = {-1, 8, 13, Integer.MIN_VALUE + 6};
        int[] addresses = {7, 0, 5, 6};
        for (int i = 0; i < registers.length; i++) {
            Rig.buffer(m, 0, registers[i], 50 + i);
            Check.due("address", m.storeAddress(0, i), addresses[i]);
            Check.due("value", m.storeValue(0, i), 50 + i);
        }
        Rig.run(m, 1, Rig.SET, 0, -3);
        Rig.run(m, 1, Rig.LOAD, 0, 0);
        Check.due("LOAD's address", m.request(1), Rig.request(Rig.READING, 5));
        Rig.run(m, 2, Rig.SET, 2, -2);
        Rig.run(m, 2, Rig.SWAP, 2, 0);
        Check.due("SWAP's address", m.request(2), Rig.request(Rig.OWNING, 6));
    }

    private static void loadFromBuffer() {
        BufferedCores m = new BufferedCores(4);
        Rig.write(m, 0, 2, 1);
        Rig.buffer(m, 0, 2, 10);
        Rig.buffer(m, 0, 2, 20);
        Rig.buffer(m, 0, 4, 30);
        Rig.run(m, 0, Rig.SET, 0, 2);
        Check.due("LOAD", Rig.run(m, 0, Rig.LOAD, 3, 0), DONE);
        Check.due("the youngest store", m.register(0, 3), 20);
        Check.due("no request", m.request(0), 0);
        Check.due("event", m.event(1), Rig.event(0, 0, 2));
        Check.due("event's value", m.eventValue(1), 20);
    }

    private static void loadFromOnlyStore() {
        BufferedCores m = new BufferedCores(4);
        Rig.buffer(m, 1, 6, 60);
        Check.due("LOAD without a line", Rig.run(m, 1, Rig.LOAD, 2, 0), DONE);
        Check.due("the only store", m.register(1, 2), 60);
        Check.due("no request", m.request(1), 0);
        Check.due("the store stays", m.buffered(1), 1);
        BufferedCores cached = new BufferedCores(4);
        Rig.write(cached, 1, 6, 50);
        Rig.buffer(cached, 1, 6, 60);
        Rig.run(cached, 1, Rig.LOAD, 2, 0);
        Check.due("the only store, not the line", cached.register(1, 2), 60);
    }

    private static void loadFromLine() {
        BufferedCores m = new BufferedCores(4);
        m.poke(5, 55);
        Rig.read(m, 0, 5);
        Check.due("from E", m.register(0, 1), 55);
        Rig.read(m, 1, 5);
        Check.due("from S", m.register(1, 1), 55);
        Rig.write(m, 2, 5, 66);
        Rig.run(m, 2, Rig.LOAD, 3, 0);
        Check.due("from M", m.register(2, 3), 66);
        Check.due("place", m.place(2), 4);
    }

    private static void loadOfOwnAddress() {
        BufferedCores m = new BufferedCores(1);
        m.poke(3, 44);
        Rig.run(m, 0, Rig.SET, 2, 3);
        Rig.run(m, 0, Rig.LOAD, 2, 2);
        m.grant(0);
        m.fill(0);
        Check.due("LOAD", m.step(0), DONE);
        Check.due("register", m.register(0, 2), 44);
        Check.due("event", m.event(0), Rig.event(0, 0, 3));
    }

    private static void loadAsks() {
        BufferedCores m = new BufferedCores(1);
        Rig.buffer(m, 0, 3, 4);
        Rig.run(m, 0, Rig.SET, 0, 1);
        Check.due("LOAD", Rig.run(m, 0, Rig.LOAD, 1, 0), STOPPED);
        Check.due("request", m.request(0), Rig.request(Rig.READING, 1));
        Check.due("place", m.place(0), 4);
        Check.due("register", m.register(0, 1), 4);
        Check.due("events", m.events(), 0);
        m.grant(0);
        Check.due("LOAD in flight", m.step(0), STOPPED);
        Check.due("request", m.request(0), Rig.request(Rig.READING + Rig.FLYING, 1));
        m.fill(0);
        Check.due("LOAD filled", m.step(0), DONE);
        Check.due("register", m.register(0, 1), 0);
    }

    private static void storeStops() {
        BufferedCores m = new BufferedCores(2);
        Rig.buffer(m, 1, 6, 60);
        Rig.run(m, 1, Rig.STORE, 1, 0);
        Check.due("STORE into a full buffer", Rig.run(m, 1, Rig.STORE, 0, 0), STOPPED);
        Check.due("buffered", m.buffered(1), 2);
        Check.due("place", m.place(1), 4);
        Check.due("no request", m.request(1), 0);
        m.drain(1);
        m.grant(1);
        m.fill(1);
        m.drain(1);
        Check.due("STORE into a buffer with room", m.step(1), DONE);
        Check.due("oldest address", m.storeAddress(1, 0), 4);
        Check.due("oldest value", m.storeValue(1, 0), 6);
        Check.due("youngest address", m.storeAddress(1, 1), 6);
        Check.due("youngest value", m.storeValue(1, 1), 6);
    }

    private static void fence() {
        BufferedCores m = new BufferedCores(2);
        Check.due("FENCE, empty", Rig.run(m, 0, Rig.FENCE, 9, 9), DONE);
        Check.due("place", m.place(0), 1);
        Rig.buffer(m, 0, 1, 1);
        Check.due("FENCE, a store", Rig.run(m, 0, Rig.FENCE, 0, 0), STOPPED);
        Check.due("no request", m.request(0), 0);
        Check.due("place", m.place(0), 4);
        m.drain(0);
        m.grant(0);
        m.fill(0);
        m.drain(0);
        Check.due("FENCE, empty again", m.step(0), DONE);
        Check.due("place", m.place(0), 5);
        Check.due("FENCE is no event", m.events(), 1);
    }

    private static void swapStops() {
        BufferedCores m = new BufferedCores(2);
        Rig.write(m, 0, 1, 0);
        Rig.buffer(m, 0, 3, 1);
        Rig.run(m, 0, Rig.SET, 0, 1);
        Check.due("SWAP of an owned word behind a store", Rig.run(m, 0, Rig.SWAP, 0, 1), STOPPED);
        Check.due("place", m.place(0), 7);
        Check.due("r3", m.register(0, 3), 0);
        Check.due("no request", m.request(0), 0);
        BufferedCores other = new BufferedCores(2);
        Rig.buffer(other, 0, 3, 1);
        Check.due("SWAP of another word behind a store", Rig.run(other, 0, Rig.SWAP, 0, 1), STOPPED);
        Check.due("no request", other.request(0), 0);
    }

    private static void swapHits() {
        BufferedCores m = new BufferedCores(2);
        m.poke(2, 70);
        Rig.run(m, 2, Rig.SET, 0, 2);
        Rig.run(m, 2, Rig.SET, 1, 71);
        Rig.run(m, 2, Rig.SET, 3, 70);
        Check.due("SWAP", Rig.run(m, 2, Rig.SWAP, 0, 1), STOPPED);
        Check.due("request", m.request(2), Rig.request(Rig.OWNING, 2));
        Check.due("r3", m.register(2, 3), 70);
        m.grant(2);
        m.fill(2);
        Check.due("line before", m.line(2, 0), Rig.line(Rig.E, 2));
        Check.due("SWAP", m.step(2), DONE);
        Check.due("line", m.line(2, 0), Rig.line(Rig.M, 2));
        Check.due("its value", m.cached(2, 2), 71);
        Check.due("r3", m.register(2, 3), 1);
        Check.due("memory", m.memory(2), 70);
        Check.due("place", m.place(2), 4);
        Check.due("event", m.event(0), Rig.event(2, 2, 2));
        Check.due("the value found", m.eventValue(0), 70);
    }

    private static void swapMisses() {
        BufferedCores m = new BufferedCores(2);
        m.poke(2, 70);
        Rig.read(m, 1, 2);
        Rig.run(m, 1, Rig.SET, 3, 69);
        Check.due("SWAP", Rig.run(m, 1, Rig.SWAP, 0, 0), DONE);
        Check.due("line stays E", m.line(1, 0), Rig.line(Rig.E, 2));
        Check.due("its value", m.cached(1, 2), 70);
        Check.due("r3", m.register(1, 3), 0);
        Check.due("event", m.event(1), Rig.event(2, 1, 2));
        Check.due("the value found", m.eventValue(1), 70);
        Rig.write(m, 1, 2, 80);
        Rig.run(m, 1, Rig.SWAP, 0, 0);
        Check.due("line stays M", m.line(1, 0), Rig.line(Rig.M, 2));
        Check.due("its value", m.cached(1, 2), 80);
    }

    private static void swapOfRegisterThree() {
        BufferedCores m = new BufferedCores(2);
        m.poke(4, 12);
        Rig.run(m, 0, Rig.SET, 3, 12);
        Rig.run(m, 0, Rig.SWAP, 3, 3);
        m.grant(0);
        m.fill(0);
        Check.due("SWAP", m.step(0), DONE);
        Check.due("r3", m.register(0, 3), 1);
        Check.due("the line has what r3 was", m.cached(0, 4), 12);
        Check.due("the line is M", m.line(0, 0), Rig.line(Rig.M, 4));
    }

    private static void swapOfShared() {
        BufferedCores m = new BufferedCores(2);
        Rig.read(m, 0, 6);
        Rig.read(m, 1, 6);
        Check.due("SWAP of a word in S", Rig.run(m, 0, Rig.SWAP, 0, 1), STOPPED);
        Check.due("request", m.request(0), Rig.request(Rig.OWNING, 6));
        m.grant(0);
        Check.due("the word can be read on", m.cached(0, 6), 0);
        Check.due("SWAP in flight", m.step(0), STOPPED);
        m.fill(0);
        Check.due("SWAP", m.step(0), DONE);
    }

    private static void oneRequestOnly() {
        BufferedCores m = new BufferedCores(2);
        Rig.askToOwn(m, 0, 7, 1);
        Rig.run(m, 0, Rig.SET, 2, 4);
        Check.due("LOAD of another word", Rig.run(m, 0, Rig.LOAD, 3, 2), STOPPED);
        Check.due("the first request stays", m.request(0), Rig.request(Rig.OWNING, 7));
        BufferedCores reading = new BufferedCores(2);
        Rig.buffer(reading, 0, 3, 1);
        Rig.askToRead(reading, 0, 4);
        Check.due("drain", reading.drain(0), STOPPED);
        Check.due("the first request stays", reading.request(0), Rig.request(Rig.READING, 4));
        BufferedCores swap = new BufferedCores(2);
        Rig.askToRead(swap, 1, 4);
        Check.due("drain with nothing", swap.drain(1), BufferedCores.NOTHING);
        Check.due("step again", swap.step(1), STOPPED);
        Check.due("the request stays", swap.request(1), Rig.request(Rig.READING, 4));
    }
}
