/** Terms: the edges of the instructions, sentence by sentence. */
final class InstructionEdgesTest {
    private static final int STOPPED = BufferedCores.STOPPED, DONE = BufferedCores.DONE, ENDED = BufferedCores.ENDED;
    private static final int MIN = Integer.MIN_VALUE, MAX = Integer.MAX_VALUE;
    /** Registers, and the addresses that are in them. */
    private static final int[] IN_REGISTER = {0, 7, 8, 15, 16, -1, -8, -7, MIN, MIN + 3, MAX, MAX - 6};
    private static final int[] ADDRESS = {0, 7, 0, 7, 0, 7, 0, 1, 0, 3, 7, 1};

    public static void main(String[] args) {
        addressOfLoad();
        addressOfStore();
        addressOfSwap();
        placeOneMore();
        registersWrap();
        loadOfTheYoungest();
        loadBesideOtherStores();
        loadOfADrainedStore();
        loadOfTheLine();
        loadAsks();
        storeIntoTheLastRoom();
        storeIntoAFullBuffer();
        fence();
        swapBehindAStore();
        swapWithoutOwning();
        swapOfEqual();
        swapOfUnequal();
        add();
        set();
        branch();
        branchToTheEdges();
        halt();
        noInstruction();
        Check.end();
    }

    private static void addressOfLoad() {
        Check.sentence("an address is the lowest three bits of a register");
        for (int i = 0; i < ADDRESS.length; i++) {
            BufferedCores m = new BufferedCores(1);
            Rig.run(m, 0, Rig.SET, 3, IN_REGISTER[i]);
            Rig.run(m, 0, Rig.LOAD, 1, 3);
            Check.due("LOAD from " + IN_REGISTER[i], m.request(0), Rig.request(Rig.READING, ADDRESS[i]));
            Rig.serve(m, 0);
            m.step(0);
            Check.due("its event", m.event(0), Rig.event(0, 0, ADDRESS[i]));
            Check.due("the register stays", m.register(0, 3), IN_REGISTER[i]);
        }
    }

    private static void addressOfStore() {
        Check.sentence("an address is the lowest three bits of a register");
        for (int i = 0; i < ADDRESS.length; i++) {
            BufferedCores m = new BufferedCores(1);
            Rig.run(m, 1, Rig.SET, 2, IN_REGISTER[i]);
            Rig.run(m, 1, Rig.STORE, 2, 2);
            Check.due("STORE to " + IN_REGISTER[i], m.storeAddress(1, 0), ADDRESS[i]);
            Check.due("its value is the whole register", m.storeValue(1, 0), IN_REGISTER[i]);
        }
    }

    private static void addressOfSwap() {
        Check.sentence("an address is the lowest three bits of a register");
        for (int i = 0; i < ADDRESS.length; i++) {
            BufferedCores m = new BufferedCores(1);
            Rig.run(m, 2, Rig.SET, 1, IN_REGISTER[i]);
            Rig.run(m, 2, Rig.SWAP, 1, 1);
            Check.due("SWAP at " + IN_REGISTER[i], m.request(2), Rig.request(Rig.OWNING, ADDRESS[i]));
            Rig.serve(m, 2);
            m.step(2);
            Check.due("the whole register", m.cached(2, ADDRESS[i]), IN_REGISTER[i]);
        }
    }

    private static void placeOneMore() {
        Check.sentence("The place becomes 1 more when one is done, unless something else is said");
        BufferedCores m = new BufferedCores(1);
        int[][] instructions = {{Rig.SET, 0, 6}, {Rig.ADD, 1, 0}, {Rig.FENCE, 0, 0}, {Rig.STORE, 0, 1},
            {Rig.LOAD, 2, 0}, {Rig.BRANCH, 3, 0}};
        for (int i = 0; i < instructions.length; i++) {
            int[] n = instructions[i];
            Check.due("operation " + n[0], Rig.run(m, 0, n[0], n[1], n[2]), DONE);
            Check.due("place behind operation " + n[0], m.place(0), i + 1);
        }
        Rig.drainThrough(m, 0);
        Check.due("a drain moves no place", m.place(0), 6);
        Check.due("SWAP", Rig.run(m, 0, Rig.SWAP, 0, 1), DONE);
        Check.due("place behind SWAP", m.place(0), 7);
        Check.due("another core's place", m.place(1), 0);
    }

    private static void registersWrap() {
        Check.sentence("registers wrap");
        sum(MAX, 1, MIN);
        sum(MIN, -1, MAX);
        sum(MIN, MIN, 0);
        sum(MAX, MAX, -2);
        sum(MIN, MAX, -1);
        sum(-1, 1, 0);
    }

    private static void sum(int p, int q, int want) {
        BufferedCores m = new BufferedCores(1);
        Rig.run(m, 0, Rig.SET, 0, p);
        Rig.run(m, 0, Rig.SET, 3, q);
        Check.due("ADD", Rig.run(m, 0, Rig.ADD, 0, 3), DONE);
        Check.due(p + " plus " + q, m.register(0, 0), want);
        Check.due("the second register stays", m.register(0, 3), q);
    }

    private static void loadOfTheYoungest() {
        Check.sentence("If the buffer has stores to x, ra becomes the value of the youngest of them");
        for (int k = 1; k <= 4; k++) {
            BufferedCores m = new BufferedCores(k);
            for (int i = 1; i <= k; i++) {
                Rig.buffer(m, 1, 3, 10 * i);
            }
            Check.due("LOAD behind " + k, Rig.run(m, 1, Rig.LOAD, 2, 0), DONE);
            Check.due("the youngest of " + k, m.register(1, 2), 10 * k);
            Check.due("no request", m.request(1), 0);
            Check.due("the stores stay", m.buffered(1), k);
        }
    }

    private static void loadBesideOtherStores() {
        Check.sentence("If the buffer has stores to x, ra becomes the value of the youngest of them");
        for (int at = 0; at < 4; at++) {
            BufferedCores m = new BufferedCores(4);
            for (int i = 0; i < 4; i++) {
                Rig.buffer(m, 0, i == at ? 5 : 7, 20 + i);
            }
            Rig.run(m, 0, Rig.SET, 0, 5);
            Check.due("LOAD", Rig.run(m, 0, Rig.LOAD, 3, 0), DONE);
            Check.due("the only store to it, at " + at, m.register(0, 3), 20 + at);
        }
        BufferedCores m = new BufferedCores(4);
        Rig.buffer(m, 0, 5, 50);
        Rig.askToRead(m, 1, 5);
        Check.due("another core's store is not seen", m.request(1), Rig.request(Rig.READING, 5));
    }

    private static void loadOfADrainedStore() {
        Check.sentence("If the buffer has stores to x, ra becomes the value of the youngest of them");
        BufferedCores m = new BufferedCores(2);
        Rig.write(m, 0, 3, 30);
        Rig.drop(m, 0, 3);
        Rig.run(m, 0, Rig.SET, 0, 3);
        Check.due("LOAD, the store is gone and so is the line", Rig.run(m, 0, Rig.LOAD, 2, 0), STOPPED);
        Check.due("it asks", m.request(0), Rig.request(Rig.READING, 3));
        BufferedCores both = new BufferedCores(2);
        Rig.buffer(both, 0, 3, 31);
        Rig.buffer(both, 0, 2, 20);
        Rig.drainThrough(both, 0);
        Rig.askToOwn(both, 1, 3, 32);
        Rig.serve(both, 1);
        both.drain(1);
        Rig.run(both, 0, Rig.SET, 0, 3);
        Check.due("LOAD, a younger store has moved up", Rig.run(both, 0, Rig.LOAD, 2, 0), STOPPED);
    }

    private static void loadOfTheLine() {
        Check.sentence("else, if the core has x, ra becomes its line's value");
        for (int core = 0; core < 3; core++) {
            int other = (core + 1) % 3;
            BufferedCores m = new BufferedCores(1);
            m.poke(2, MIN);
            Rig.read(m, core, 2);
            Check.due("from E", m.register(core, 1), MIN);
            Rig.read(m, other, 2);
            Rig.run(m, core, Rig.LOAD, 2, 0);
            Check.due("from S", m.register(core, 2), MIN);
            Rig.write(m, core, 2, MAX);
            Rig.run(m, core, Rig.LOAD, 3, 0);
            Check.due("from M", m.register(core, 3), MAX);
            Check.due("a load changes no line", m.line(core, 0), Rig.line(Rig.M, 2));
        }
    }

    private static void loadAsks() {
        Check.sentence("else the core asks for reading x");
        BufferedCores m = new BufferedCores(1);
        Rig.read(m, 0, 1);
        Rig.run(m, 0, Rig.SET, 0, 3);
        Check.due("LOAD of the line's other word", Rig.run(m, 0, Rig.LOAD, 1, 0), STOPPED);
        Check.due("request", m.request(0), Rig.request(Rig.READING, 3));
        Check.due("the line stays until the grant", m.line(0, 1), Rig.line(Rig.E, 1));
        Check.due("events", m.events(), 1);
    }

    private static void storeIntoTheLastRoom() {
        Check.sentence("a store of the value rb to the address in ra comes into the buffer");
        for (int k = 1; k <= 4; k++) {
            BufferedCores m = new BufferedCores(k);
            for (int i = 0; i < k; i++) {
                Rig.run(m, 2, Rig.SET, 1, i);
                Check.due("STORE " + i, Rig.run(m, 2, Rig.STORE, 1, 1), DONE);
                Check.due("buffered", m.buffered(2), i + 1);
                Check.due("address", m.storeAddress(2, i), i);
                Check.due("value", m.storeValue(2, i), i);
            }
            Check.due("a store in the buffer is no event", m.events(), 0);
        }
    }

    private static void storeIntoAFullBuffer() {
        Check.sentence("if that has K, the core is STOPPED");
        for (int k = 1; k <= 4; k++) {
            BufferedCores m = new BufferedCores(k);
            for (int i = 0; i < k; i++) {
                Rig.run(m, 0, Rig.STORE, 0, 0);
            }
            m.code(0, Rig.STORE, 0, 0);
            Check.idle("STORE into a buffer of " + k, m, () -> m.step(0), STOPPED);
            Check.due("another core has room", Rig.run(m, 1, Rig.STORE, 0, 0), DONE);
            Rig.drainThrough(m, 0);
            Check.due("STORE, room again", m.step(0), DONE);
            Check.due("buffered", m.buffered(0), k);
        }
    }

    private static void fence() {
        Check.sentence("it is done if the buffer is empty; else the core is stopped");
        for (int k = 1; k <= 4; k++) {
            BufferedCores m = new BufferedCores(4);
            for (int i = 0; i < k; i++) {
                Rig.run(m, 0, Rig.STORE, 0, 0);
            }
            m.code(0, Rig.FENCE, 0, 0);
            for (int i = k; i > 0; i--) {
                Check.due("FENCE behind " + i, m.step(0), STOPPED);
                Rig.drainThrough(m, 0);
            }
            Check.due("FENCE behind none", m.step(0), DONE);
            Check.due("place", m.place(0), k + 1);
        }
        BufferedCores m = new BufferedCores(1);
        Rig.buffer(m, 1, 3, 3);
        Check.due("FENCE, a store in another core's buffer", Rig.run(m, 0, Rig.FENCE, 0, 0), DONE);
        m.code(1, Rig.FENCE, 0, 0);
        Check.idle("FENCE", m, () -> m.step(1), STOPPED);
        Rig.askToRead(m, 2, 3);
        Check.due("FENCE, a request of another core", Rig.run(m, 0, Rig.FENCE, 0, 0), DONE);
    }

    private static void swapBehindAStore() {
        Check.sentence("If the buffer is not empty, the core is stopped");
        BufferedCores m = new BufferedCores(1);
        Rig.write(m, 0, 1, 0);
        Rig.run(m, 0, Rig.STORE, 0, 1);
        m.code(0, Rig.SWAP, 0, 2);
        Check.idle("SWAP of a word that it owns", m, () -> m.step(0), STOPPED);
        Rig.buffer(m, 1, 3, 3);
        m.code(1, Rig.SWAP, 0, 2);
        Check.idle("SWAP of a word that it has not: it does not ask", m, () -> m.step(1), STOPPED);
        m.drain(0);
        Check.due("SWAP behind none", m.step(0), DONE);
    }

    private static void swapWithoutOwning() {
        Check.sentence("else, if it does not own x, it asks for owning x");
        BufferedCores m = new BufferedCores(1);
        Check.due("SWAP, I", Rig.run(m, 0, Rig.SWAP, 0, 1), STOPPED);
        Check.due("request", m.request(0), Rig.request(Rig.OWNING, 0));
        Rig.read(m, 1, 2);
        Rig.run(m, 1, Rig.SET, 0, 4);
        Check.due("SWAP, another address", Rig.run(m, 1, Rig.SWAP, 0, 1), STOPPED);
        Check.due("request", m.request(1), Rig.request(Rig.OWNING, 4));
        Rig.read(m, 2, 2);
        Check.due("SWAP, S", Rig.run(m, 2, Rig.SWAP, 0, 1), STOPPED);
        Check.due("request", m.request(2), Rig.request(Rig.OWNING, 2));
        Check.due("r3 stays", m.register(2, 3), 0);
        Check.due("the value stays", m.cached(2, 2), 0);
        Check.due("loads are the only events", m.events(), 2);
    }

    private static void swapOfEqual() {
        Check.sentence("if the line's value is r3, it becomes rb, the line is M, and r3 becomes 1");
        for (int found : new int[] {0, 1, -1, MIN, MAX}) {
            for (int v : new int[] {0, 1, found, MIN}) {
                BufferedCores m = swapping(found, found, v);
                Check.due("SWAP", m.step(1), DONE);
                Check.due("value", m.cached(1, 6), v);
                Check.due("line", m.line(1, 0), Rig.line(Rig.M, 6));
                Check.due("r3", m.register(1, 3), 1);
                Check.due("rb stays", m.register(1, 2), v);
                Check.due("memory", m.memory(6), found);
                Check.due("event", m.event(0), Rig.event(2, 1, 6));
                Check.due("the value found", m.eventValue(0), found);
                Check.due("SWAP in M, of 1", Rig.run(m, 1, Rig.SWAP, 0, 1), DONE);
                Check.due("r3", m.register(1, 3), v == 1 ? 1 : 0);
            }
        }
    }

    private static void swapOfUnequal() {
        Check.sentence("otherwise r3 becomes 0");
        int[][] pairs = {{0, 1}, {1, 0}, {MIN, MAX}, {MAX, MIN}, {-1, 1}, {0, MIN}, {5, 5 + 65536}, {5, 5 + 256}};
        for (int[] pair : pairs) {
            BufferedCores m = swapping(pair[0], pair[1], 77);
            Check.due("SWAP", m.step(1), DONE);
            Check.due("value", m.cached(1, 6), pair[0]);
            Check.due("line", m.line(1, 0), Rig.line(Rig.E, 6));
            Check.due("r3", m.register(1, 3), 0);
            Check.due("place", m.place(1), 4);
            Check.due("event", m.event(0), Rig.event(2, 1, 6));
            Check.due("the value found", m.eventValue(0), pair[0]);
            Rig.write(m, 1, 6, 9);
            Rig.run(m, 1, Rig.SET, 3, 8);
            Rig.run(m, 1, Rig.SWAP, 0, 2);
            Check.due("line, from M", m.line(1, 0), Rig.line(Rig.M, 6));
            Check.due("value, from M", m.cached(1, 6), 9);
        }
    }

    /** Core 1 owns 6 with the value found, and is at a SWAP there of r3 against r2, which are as told. */
    private static BufferedCores swapping(int found, int r3, int r2) {
        BufferedCores m = new BufferedCores(1);
        m.poke(6, found);
        Rig.run(m, 1, Rig.SET, 0, 6);
        Rig.run(m, 1, Rig.SET, 3, r3);
        Rig.run(m, 1, Rig.SET, 2, r2);
        Rig.run(m, 1, Rig.SWAP, 0, 2);
        Rig.serve(m, 1);
        return m;
    }

    private static void add() {
        Check.sentence("ADD: ra becomes ra plus rb.");
        BufferedCores m = new BufferedCores(1);
        Rig.run(m, 0, Rig.SET, 2, MIN + 1);
        Rig.run(m, 0, Rig.ADD, 2, 2);
        Check.due("a register plus itself", m.register(0, 2), 2);
        Rig.run(m, 0, Rig.ADD, 3, 2);
        Check.due("0 plus 2", m.register(0, 3), 2);
    }

    private static void set() {
        Check.sentence("SET: ra becomes b.");
        for (int b : new int[] {MIN, -1, 0, 4, 16, MAX}) {
            for (int r = 0; r < 4; r++) {
                BufferedCores m = new BufferedCores(1);
                Rig.run(m, 0, Rig.SET, r, 3);
                Check.due("SET", Rig.run(m, 0, Rig.SET, r, b), DONE);
                for (int other = 0; other < 4; other++) {
                    Check.due("register " + other, m.register(0, other), other == r ? b : 0);
                }
            }
        }
    }

    private static void branch() {
        Check.sentence("BRANCH: if ra is not 0, the place becomes b.");
        for (int v : new int[] {0, 1, -1, 2, MIN, MAX, 256, 65536}) {
            BufferedCores m = new BufferedCores(1);
            Rig.run(m, 0, Rig.SET, 3, v);
            Check.due("BRANCH", Rig.run(m, 0, Rig.BRANCH, 3, 9), DONE);
            Check.due("place behind a BRANCH on " + v, m.place(0), v == 0 ? 2 : 9);
            Check.due("the register stays", m.register(0, 3), v);
        }
    }

    private static void branchToTheEdges() {
        Check.sentence("BRANCH: if ra is not 0, the place becomes b.");
        for (int b : new int[] {0, 1, 15}) {
            BufferedCores m = new BufferedCores(1);
            Rig.run(m, 0, Rig.SET, 0, 1);
            Rig.run(m, 0, Rig.BRANCH, 0, b);
            Check.due("place", m.place(0), b);
        }
        BufferedCores self = new BufferedCores(1);
        Rig.run(self, 0, Rig.SET, 0, 1);
        Check.due("BRANCH to itself", Rig.run(self, 0, Rig.BRANCH, 0, 1), DONE);
        Check.due("BRANCH to itself again", self.step(0), DONE);
        Check.due("place", self.place(0), 1);
        BufferedCores last = new BufferedCores(1);
        for (int i = 0; i < 15; i++) {
            Rig.run(last, 0, Rig.SET, i % 2, i);
        }
        Check.due("BRANCH at the last place", Rig.run(last, 0, Rig.BRANCH, 0, 15), DONE);
        Check.due("place", last.place(0), 15);
    }

    private static void halt() {
        Check.sentence("HALT: it is never done.");
        BufferedCores m = new BufferedCores(1);
        Rig.run(m, 0, Rig.SET, 0, 1);
        m.code(0, Rig.HALT, 0, 0);
        Check.idle("HALT", m, () -> m.step(0), ENDED);
        m.code(0, Rig.SET, 0, 2);
        Check.idle("HALT before an instruction", m, () -> m.step(0), ENDED);
    }

    private static void noInstruction() {
        Check.sentence("(Nor is anything when the place has no instruction.)");
        BufferedCores m = new BufferedCores(1);
        Check.idle("an empty program", m, () -> m.step(0), ENDED);
        Rig.run(m, 0, Rig.SET, 0, 1);
        Check.idle("a program's end", m, () -> m.step(0), ENDED);
        Rig.run(m, 0, Rig.BRANCH, 0, 15);
        Check.idle("a place behind the program's end", m, () -> m.step(0), ENDED);
        BufferedCores full = new BufferedCores(1);
        for (int i = 0; i < 16; i++) {
            Rig.run(full, 2, Rig.SET, 0, i);
        }
        Check.idle("the end of a full program", full, () -> full.step(2), ENDED);
        Check.due("place", full.place(2), 16);
    }
}
