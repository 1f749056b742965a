/** Promises 1 to 7: the edges of the calls that change something, sentence by sentence. */
final class CallEdgesTest {
    private static final int STOPPED = BufferedCores.STOPPED, DONE = BufferedCores.DONE, ENDED = BufferedCores.ENDED;
    private static final int NOTHING = BufferedCores.NOTHING, BUSY = BufferedCores.BUSY;
    private static final int MIN = Integer.MIN_VALUE, MAX = Integer.MAX_VALUE;
    private static final Class<IllegalArgumentException> ARGUMENT = IllegalArgumentException.class;
    private static final Class<IllegalStateException> STATE = IllegalStateException.class;

    public static void main(String[] args) {
        empty();
        roomForStores();
        codeCounts();
        codeOperation();
        codeRegisterA();
        codeRegisterB();
        codeBranch();
        codeFull();
        codeNotLookedAt();
        pokeSets();
        pokeAddress();
        pokeOfAWordThatACoreHas();
        pokeOfAWordThatNoCoreHasAnyMore();
        pokeOfAWordInFlight();
        stepAnswers();
        drainAnswers();
        grantAnswers();
        grantOfNoneThatWaits();
        fillAnswers();
        Check.end();
    }

    private static void empty() {
        Check.sentence("Programs, buffers and caches are empty.");
        for (int stores : new int[] {MIN, 0, 1, 4, MAX}) {
            BufferedCores m = new BufferedCores(stores);
            for (int core = 0; core < 3; core++) {
                Check.due("step", m.step(core), ENDED);
                Check.due("buffered", m.buffered(core), 0);
                Check.due("drain", m.drain(core), NOTHING);
                Check.due("line 0", m.line(core, 0), 0);
                Check.due("line 1", m.line(core, 1), 0);
                Check.due("request", m.request(core), 0);
                Check.due("code", m.code(core, Rig.HALT, 0, 0), 1);
            }
        }
    }

    private static void roomForStores() {
        Check.sentence("K is stores, but 1 if that is less and 4 if it is more.");
        int[] stores = {MIN, MIN + 1, -4, -1, 0, 1, 2, 3, 4, 5, 6, 256, 257, 65536, 65537, MAX};
        for (int n : stores) {
            int k = n < 1 ? 1 : n > 4 ? 4 : n;
            for (int core = 0; core < 3; core++) {
                BufferedCores m = new BufferedCores(n);
                for (int i = 0; i < k; i++) {
                    Check.due("STORE " + i + " of " + n, Rig.run(m, core, Rig.STORE, 0, 0), DONE);
                }
                Check.due("STORE behind " + k + " of " + n, Rig.run(m, core, Rig.STORE, 0, 0), STOPPED);
                Check.due("buffered of " + n, m.buffered(core), k);
            }
        }
    }

    private static void codeCounts() {
        Check.sentence("Appends an instruction to a core's program: how many it has then.");
        BufferedCores m = new BufferedCores(1);
        for (int i = 1; i <= 16; i++) {
            for (int core = 0; core < 3; core++) {
                Check.due("code", m.code(core, Rig.SET, core, i), i);
            }
        }
        for (int i = 1; i <= 16; i++) {
            for (int core = 0; core < 3; core++) {
                m.step(core);
                Check.due("what it set", m.register(core, core), i);
            }
        }
    }

    private static void codeOperation() {
        Check.sentence("IllegalArgumentException when op is not 0 .. 7");
        for (int op : Rig.outside(7)) {
            coding(op, 0, 0, false);
        }
        for (int op = 0; op < 8; op++) {
            coding(op, 0, 0, true);
        }
    }

    private static void codeRegisterA() {
        Check.sentence("a (for all but FENCE and HALT)");
        for (int op : new int[] {Rig.LOAD, Rig.STORE, Rig.SWAP, Rig.ADD, Rig.SET, Rig.BRANCH}) {
            for (int a : Rig.outside(3)) {
                coding(op, a, 0, false);
            }
            for (int a = 0; a < 4; a++) {
                coding(op, a, 0, true);
            }
        }
    }

    private static void codeRegisterB() {
        Check.sentence("or b (for LOAD, STORE, SWAP, ADD) is no register");
        for (int op : new int[] {Rig.LOAD, Rig.STORE, Rig.SWAP, Rig.ADD}) {
            for (int b : Rig.outside(3)) {
                coding(op, 0, b, false);
                coding(op, b, b, false);
            }
            for (int b = 0; b < 4; b++) {
                coding(op, 3, b, true);
            }
        }
    }

    private static void codeBranch() {
        Check.sentence("or b of a BRANCH is not 0 .. 15");
        for (int b : Rig.outside(15)) {
            coding(Rig.BRANCH, 0, b, false);
        }
        for (int b = 0; b < 16; b++) {
            coding(Rig.BRANCH, 3, b, true);
        }
    }

    private static void codeFull() {
        Check.sentence("IllegalStateException when the program has 16.");
        BufferedCores m = new BufferedCores(1);
        for (int i = 0; i < 15; i++) {
            m.code(1, Rig.SET, 0, i);
        }
        Check.due("the 16th", m.code(1, Rig.HALT, 9, 9), 16);
        for (int op = 0; op < 8; op++) {
            int operation = op;
            Check.throwing("operation " + op + " as the 17th", STATE, () -> m.code(1, operation, 0, 0));
        }
        Check.throwing("a wrong one as the 17th", ARGUMENT, () -> m.code(1, 8, 0, 0));
        Check.throwing("a wrong register in the 17th", ARGUMENT, () -> m.code(1, Rig.SET, 4, 0));
        Check.throwing("a wrong place in the 17th", ARGUMENT, () -> m.code(1, Rig.BRANCH, 0, 16));
        Check.throwing("what is not looked at, in the 17th", STATE, () -> m.code(1, Rig.FENCE, 4, 4));
        Check.due("another core", m.code(0, Rig.SET, 0, 0), 1);
        for (int i = 0; i < 15; i++) {
            m.step(1);
            Check.due("what instruction " + i + " set", m.register(1, 0), i);
        }
        Check.due("the 16th is a HALT", m.step(1), ENDED);
        Check.throwing("the 17th, the core being at its end", STATE, () -> m.code(1, Rig.SET, 0, 0));
    }

    private static void codeNotLookedAt() {
        Check.sentence("Numbers that an instruction has not are not looked at.");
        int[] numbers = {MIN, -1, 4, 8, 16, MAX};
        for (int a : numbers) {
            for (int b : numbers) {
                coding(Rig.FENCE, a, b, true);
                coding(Rig.HALT, a, b, true);
            }
        }
        BufferedCores m = new BufferedCores(1);
        Check.due("FENCE", Rig.run(m, 0, Rig.FENCE, MIN, MAX), DONE);
        Check.due("HALT", Rig.run(m, 0, Rig.HALT, MAX, MIN), ENDED);
        for (int b : numbers) {
            coding(Rig.SET, 0, b, true);
        }
    }

    /** The instruction is taken by a new object, or else refused and not counted. */
    private static void coding(int op, int a, int b, boolean taken) {
        BufferedCores m = new BufferedCores(1);
        String call = "code(2, " + op + ", " + a + ", " + b + ")";
        if (taken) {
            Check.fine(call, () -> Check.due(call, m.code(2, op, a, b), 1));
        } else {
            Check.throwing(call, ARGUMENT, () -> m.code(2, op, a, b));
        }
        Check.due("the next one behind " + call, m.code(2, Rig.SET, 0, 0), taken ? 2 : 1);
    }

    private static void pokeSets() {
        Check.sentence("Sets a word of memory.");
        for (int x = 0; x < 8; x++) {
            BufferedCores m = new BufferedCores(1);
            for (int v : new int[] {MIN, MAX, 0, -1}) {
                m.poke(x, v);
                Check.due("memory", m.memory(x), v);
                Check.due("word", m.word(x), v);
            }
            for (int y = 0; y < 8; y++) {
                Check.due("memory " + y, m.memory(y), y == x ? -1 : 0);
            }
        }
    }

    private static void pokeAddress() {
        Check.sentence("IllegalArgumentException when x is not 0 .. 7");
        BufferedCores m = new BufferedCores(1);
        Rig.write(m, 0, 0, 1);
        Rig.write(m, 0, 7, 1);
        for (int x : Rig.outside(7)) {
            Check.throwing("poke at " + x, ARGUMENT, () -> m.poke(x, 1));
        }
    }

    private static void pokeOfAWordThatACoreHas() {
        Check.sentence("IllegalStateException when some core has x");
        for (int core = 0; core < 3; core++) {
            for (int x = 0; x < 8; x++) {
                int address = x;
                BufferedCores m = new BufferedCores(1);
                Rig.read(m, core, x);
                Check.refused("poke, in E", m, STATE, () -> m.poke(address, 1));
                Rig.write(m, core, x, 2);
                Check.refused("poke, in M", m, STATE, () -> m.poke(address, 1));
                Rig.read(m, (core + 1) % 3, x);
                Check.throwing("poke, in S twice", STATE, () -> m.poke(address, 1));
                Rig.drop(m, (core + 1) % 3, x);
                Check.throwing("poke, in S once", STATE, () -> m.poke(address, 1));
                Check.fine("poke beside it", () -> m.poke((address + 1) % 8, 1));
                Check.fine("poke at the line's other address", () -> m.poke((address + 4) % 8, 1));
            }
        }
    }

    private static void pokeOfAWordThatNoCoreHasAnyMore() {
        Check.sentence("IllegalStateException when some core has x");
        BufferedCores m = new BufferedCores(1);
        Rig.write(m, 0, 5, 50);
        Rig.drop(m, 0, 5);
        Check.fine("poke of a word that was dropped", () -> m.poke(5, 51));
        Check.due("memory", m.memory(5), 51);
        Rig.buffer(m, 1, 5, 52);
        Check.fine("poke of a word that is only in a buffer", () -> m.poke(5, 53));
        m.drain(1);
        Check.fine("poke of a word that a core waits for", () -> m.poke(5, 54));
        Rig.serve(m, 1);
        Check.due("what the core got", m.cached(1, 5), 54);
        Check.throwing("poke of it then", STATE, () -> m.poke(5, 55));
    }

    private static void pokeOfAWordInFlight() {
        Check.sentence("or some request for it is in flight");
        for (int core = 0; core < 3; core++) {
            int asker = core;
            BufferedCores reading = new BufferedCores(1);
            Rig.askToRead(reading, core, 0);
            reading.grant(core);
            Check.refused("poke, reading", reading, STATE, () -> reading.poke(0, 1));
            Check.fine("poke of another word", () -> reading.poke(2, 1));
            BufferedCores owning = new BufferedCores(1);
            Rig.write(owning, (core + 1) % 3, 7, 9);
            Rig.askToOwn(owning, asker, 7, 8);
            owning.grant(asker);
            Check.refused("poke, owning, in no line", owning, STATE, () -> owning.poke(7, 1));
            Check.fine("poke of another word", () -> owning.poke(5, 1));
            Check.due("memory", owning.memory(7), 9);
        }
    }

    private static void stepAnswers() {
        Check.sentence("DONE or STOPPED; ENDED when that is HALT or there is none.");
        BufferedCores m = new BufferedCores(1);
        Check.due("none", m.step(0), ENDED);
        Check.due("a STORE", Rig.run(m, 0, Rig.STORE, 0, 0), DONE);
        Check.due("a FENCE", Rig.run(m, 0, Rig.FENCE, 0, 0), STOPPED);
        Rig.drainThrough(m, 0);
        Check.due("a FENCE", m.step(0), DONE);
        Check.due("none", m.step(0), ENDED);
        Check.due("a HALT", Rig.run(m, 0, Rig.HALT, 0, 0), ENDED);
        Check.due("a HALT in a program of which the rest is left", m.code(0, Rig.SET, 0, 0), 4);
        Check.due("a HALT", m.step(0), ENDED);
        Check.due("another core's", m.step(1), ENDED);
    }

    private static void drainAnswers() {
        Check.sentence("DONE or STOPPED; NOTHING when its buffer is empty.");
        BufferedCores m = new BufferedCores(1);
        Check.idle("drain, empty from the beginning", m, () -> m.drain(0), NOTHING);
        Rig.buffer(m, 0, 3, 3);
        Check.due("drain", m.drain(0), STOPPED);
        Check.idle("another core's drain", m, () -> m.drain(1), NOTHING);
        Rig.serve(m, 0);
        Check.due("drain", m.drain(0), DONE);
        Check.idle("drain, empty again", m, () -> m.drain(0), NOTHING);
        BufferedCores asking = new BufferedCores(1);
        Rig.askToRead(asking, 2, 3);
        Check.idle("drain, empty under a request", asking, () -> asking.drain(2), NOTHING);
    }

    private static void grantAnswers() {
        Check.sentence("A core's request is granted: DONE or BUSY");
        BufferedCores m = new BufferedCores(1);
        Rig.askToRead(m, 0, 6);
        Rig.askToRead(m, 1, 6);
        Check.due("grant", m.grant(0), DONE);
        Check.due("grant", m.grant(1), BUSY);
        Check.due("grant again", m.grant(1), BUSY);
        m.fill(0);
        Check.due("grant", m.grant(1), DONE);
    }

    private static void grantOfNoneThatWaits() {
        Check.sentence("NOTHING when it has none that waits.");
        BufferedCores waiting = new BufferedCores(1);
        Check.idle("grant without a request", waiting, () -> waiting.grant(1), NOTHING);
        Rig.askToRead(waiting, 0, 6);
        Check.idle("grant, another core's waits", waiting, () -> waiting.grant(1), NOTHING);
        BufferedCores flying = new BufferedCores(1);
        Rig.askToRead(flying, 0, 6);
        flying.grant(0);
        Check.idle("grant in flight", flying, () -> flying.grant(0), NOTHING);
        Check.idle("grant, another core's is in flight", flying, () -> flying.grant(1), NOTHING);
        flying.fill(0);
        Check.idle("grant behind the fill", flying, () -> flying.grant(0), NOTHING);
    }

    private static void fillAnswers() {
        Check.sentence("A core's request is filled: DONE; NOTHING when it has none in flight.");
        BufferedCores waiting = new BufferedCores(1);
        Check.idle("fill without a request", waiting, () -> waiting.fill(2), NOTHING);
        Rig.askToRead(waiting, 2, 6);
        Check.idle("fill of a waiting request", waiting, () -> waiting.fill(2), NOTHING);
        BufferedCores flying = new BufferedCores(1);
        Rig.askToRead(flying, 2, 6);
        flying.grant(2);
        Check.idle("fill, another core's is in flight", flying, () -> flying.fill(0), NOTHING);
        Check.due("fill", flying.fill(2), DONE);
        Check.idle("fill again", flying, () -> flying.fill(2), NOTHING);
    }
}
