import java.util.NoSuchElementException;

/** Terms: the edges of what there is, sentence by sentence: words, cores, lines, what a core has and owns. */
final class StateEdgesTest {
    private static final int STOPPED = BufferedCores.STOPPED, DONE = BufferedCores.DONE, ENDED = BufferedCores.ENDED;
    private static final int MIN = Integer.MIN_VALUE, MAX = Integer.MAX_VALUE;
    private static final Class<IllegalArgumentException> ARGUMENT = IllegalArgumentException.class;
    private static final Class<NoSuchElementException> NONE = NoSuchElementException.class;

    public static void main(String[] args) {
        words();
        cores();
        registers();
        programs();
        places();
        buffers();
        lines();
        statesAtFirst();
        has();
        hasNoMore();
        owns();
        requests();
        theWord();
        theWordOfNoLineInM();
        objectsApart();
        Check.end();
    }

    private static void words() {
        Check.sentence("MEMORY has the words 0 .. 7, ints, 0 at first.");
        BufferedCores m = new BufferedCores(1);
        for (int x = 0; x < 8; x++) {
            Check.due("memory " + x, m.memory(x), 0);
        }
        m.poke(0, MIN);
        m.poke(7, MAX);
        Check.due("the first word", m.memory(0), MIN);
        Check.due("the last word", m.memory(7), MAX);
        for (int x = 1; x < 7; x++) {
            Check.due("memory " + x, m.memory(x), 0);
        }
        for (int x : Rig.outside(7)) {
            Check.throwing("memory " + x, ARGUMENT, () -> m.memory(x));
        }
    }

    private static void cores() {
        Check.sentence("CORES are 0, 1, 2");
        BufferedCores m = new BufferedCores(1);
        for (int core = 0; core < 3; core++) {
            Check.due("step of core " + core, Rig.run(m, core, Rig.SET, 0, 7 + core), DONE);
        }
        for (int core = 0; core < 3; core++) {
            Check.due("register of core " + core, m.register(core, 0), 7 + core);
        }
        for (int core : Rig.outside(2)) {
            Check.throwing("core " + core, IndexOutOfBoundsException.class, () -> m.place(core));
        }
    }

    private static void registers() {
        Check.sentence("a core has registers 0 .. 3 (ints, 0 at first)");
        BufferedCores m = new BufferedCores(1);
        for (int r = 0; r < 4; r++) {
            Check.due("register " + r, m.register(2, r), 0);
        }
        Rig.run(m, 2, Rig.SET, 0, MIN);
        Rig.run(m, 2, Rig.SET, 3, MAX);
        Check.due("the first register", m.register(2, 0), MIN);
        Check.due("the last register", m.register(2, 3), MAX);
        Check.due("register 1", m.register(2, 1), 0);
        Check.due("register 2", m.register(2, 2), 0);
    }

    private static void programs() {
        Check.sentence("a PROGRAM of at most 16 instructions");
        BufferedCores m = new BufferedCores(1);
        for (int core = 0; core < 3; core++) {
            int c = core;
            for (int i = 1; i <= 16; i++) {
                Check.due("instruction " + i, m.code(core, Rig.SET, 1, i), i);
            }
            Check.throwing("instruction 17", IllegalStateException.class, () -> m.code(c, Rig.SET, 1, 17));
        }
        for (int i = 1; i <= 16; i++) {
            m.step(1);
            Check.due("what instruction " + i + " has set", m.register(1, 1), i);
        }
        Check.due("step behind the 16th", m.step(1), ENDED);
        Check.due("register", m.register(1, 1), 16);
    }

    private static void places() {
        Check.sentence("a PLACE (0 at first)");
        BufferedCores m = new BufferedCores(1);
        for (int core = 0; core < 3; core++) {
            Check.due("place", m.place(core), 0);
            m.code(core, Rig.SET, 0, 5);
            Check.due("place, with a program", m.place(core), 0);
        }
        m.step(0);
        Check.due("register", m.register(0, 0), 5);
    }

    /** Ten stores go through a buffer of two, one in and one out, so that it wraps around where it is a ring. */
    private static void buffers() {
        Check.sentence("a BUFFER of at most K STORES (an address and a value each, the oldest first)");
        BufferedCores m = new BufferedCores(2);
        m.code(0, Rig.SET, 2, 1);
        m.code(0, Rig.STORE, 0, 1);
        m.code(0, Rig.ADD, 1, 2);
        m.code(0, Rig.BRANCH, 2, 1);
        m.step(0);
        storeNext(m);
        for (int v = 1; v <= 10; v++) {
            storeNext(m);
            Check.due("buffered", m.buffered(0), 2);
            Check.due("the oldest", m.storeValue(0, 0), v - 1);
            Check.due("the youngest", m.storeValue(0, 1), v);
            Rig.drainThrough(m, 0);
            Check.due("what was drained", m.word(0), v - 1);
            Check.due("buffered", m.buffered(0), 1);
            Check.due("the oldest", m.storeValue(0, 0), v);
        }
    }

    private static void storeNext(BufferedCores m) {
        Check.due("STORE", m.step(0), DONE);
        m.step(0);
        m.step(0);
    }

    private static void lines() {
        Check.sentence("line i is for the addresses x with x modulo 2 = i");
        for (int x = 0; x < 8; x++) {
            BufferedCores m = new BufferedCores(1);
            Rig.read(m, 1, x);
            Check.due("the line for " + x, m.line(1, x % 2), Rig.line(Rig.E, x));
            Check.due("the other line", m.line(1, 1 - x % 2), 0);
            int next = (x + 1) % 8;
            Rig.read(m, 1, next);
            Check.due("the line for " + x + " beside " + next, m.line(1, x % 2), Rig.line(Rig.E, x));
            Check.due("the line for " + next, m.line(1, next % 2), Rig.line(Rig.E, next));
        }
        for (int x = 0; x < 8; x++) {
            for (int y = x % 2; y < 8; y += 2) {
                BufferedCores m = new BufferedCores(1);
                Rig.read(m, 1, x);
                Rig.read(m, 1, y);
                Check.due("the line for " + x + " behind " + y, m.line(1, x % 2), Rig.line(Rig.E, y));
            }
        }
    }

    private static void statesAtFirst() {
        Check.sentence("(at first I), and if that is not I an address and a value");
        BufferedCores m = new BufferedCores(1);
        for (int core = 0; core < 3; core++) {
            Check.due("line 0", m.line(core, 0), 0);
            Check.due("line 1", m.line(core, 1), 0);
        }
    }

    /** An unused line may well show the address 0 inside: no core has 0 for that. */
    private static void has() {
        Check.sentence("A core HAS x when its line for x has the address x and is not I");
        for (int x = 0; x < 8; x++) {
            int address = x;
            BufferedCores m = new BufferedCores(1);
            m.poke(x, 5);
            Check.throwing("cached, at first", NONE, () -> m.cached(0, address));
            Check.fine("poke, at first", () -> m.poke(address, 6));
            Rig.run(m, 0, Rig.SET, 0, x);
            Check.due("LOAD, at first", Rig.run(m, 0, Rig.LOAD, 1, 0), STOPPED);
            Rig.serve(m, 0);
            Check.due("LOAD, in E", m.step(0), DONE);
            Check.due("register", m.register(0, 1), 6);
            Check.due("cached", m.cached(0, x), 6);
            int other = (x + 2) % 8;
            Rig.run(m, 0, Rig.SET, 0, other);
            Check.due("LOAD of another address", Rig.run(m, 0, Rig.LOAD, 1, 0), STOPPED);
            Check.throwing("cached, another address", NONE, () -> m.cached(0, other));
        }
    }

    private static void hasNoMore() {
        Check.sentence("A core HAS x when its line for x has the address x and is not I");
        for (int x = 0; x < 8; x++) {
            int address = x;
            BufferedCores m = new BufferedCores(1);
            Rig.write(m, 0, x, 5);
            Rig.askToOwn(m, 1, x, 9);
            m.grant(1);
            Check.throwing("cached in a line that has become I", NONE, () -> m.cached(0, address));
            Check.due("LOAD", Rig.run(m, 0, Rig.LOAD, 2, 0), STOPPED);
            Check.due("it asks", m.request(0), Rig.request(Rig.READING, x));
            Check.due("register", m.register(0, 2), 0);
            m.fill(1);
            m.drain(1);
            Rig.serve(m, 0);
            m.step(0);
            Check.due("what the other core has written", m.register(0, 2), 9);
        }
    }

    private static void owns() {
        Check.sentence("it OWNS x when that line is E or M");
        BufferedCores m = new BufferedCores(1);
        Rig.read(m, 0, 4);
        Rig.buffer(m, 0, 4, 1);
        Check.due("drain into E", m.drain(0), DONE);
        Rig.buffer(m, 0, 4, 2);
        Check.due("drain into M", m.drain(0), DONE);
        Rig.read(m, 1, 4);
        Rig.buffer(m, 0, 4, 3);
        Check.due("drain into S", m.drain(0), STOPPED);
        Check.due("it asks", m.request(0), Rig.request(Rig.OWNING, 4));
        Rig.buffer(m, 1, 6, 4);
        Check.due("drain into another address", m.drain(1), STOPPED);
        Rig.buffer(m, 2, 0, 5);
        Check.due("drain into I", m.drain(2), STOPPED);
    }

    private static void requests() {
        Check.sentence("A request is for READING or OWNING an address; it is WAITING, or IN FLIGHT, and then it has a value.");
        BufferedCores m = new BufferedCores(1);
        m.poke(7, 3);
        Rig.askToRead(m, 2, 7);
        Check.due("waiting", m.request(2), Rig.request(Rig.READING, 7));
        m.poke(7, 4);
        m.grant(2);
        Check.due("in flight", m.request(2), Rig.request(Rig.READING + Rig.FLYING, 7));
        m.fill(2);
        Check.due("the value that it got when it was granted", m.cached(2, 7), 4);
    }

    private static void theWord() {
        Check.sentence("THE WORD at x is the value of a line that has x in M, if there is one, otherwise memory's.");
        for (int x = 0; x < 8; x++) {
            for (int core = 0; core < 3; core++) {
                BufferedCores m = new BufferedCores(1);
                m.poke(x, 5);
                Rig.write(m, core, x, MIN);
                Check.due("in M", m.word(x), MIN);
                Check.due("memory", m.memory(x), 5);
                Check.due("the line's other address", m.word((x + 2) % 8), 0);
                Check.due("the other line", m.word((x + 1) % 8), 0);
            }
        }
    }

    private static void theWordOfNoLineInM() {
        Check.sentence("THE WORD at x is the value of a line that has x in M, if there is one, otherwise memory's.");
        BufferedCores m = new BufferedCores(1);
        Rig.write(m, 0, 1, 8);
        Rig.read(m, 1, 1);
        Check.due("in S", m.word(1), 8);
        Rig.askToOwn(m, 2, 1, 9);
        m.grant(2);
        Check.due("in flight", m.word(1), 8);
        m.fill(2);
        Check.due("in E, a store in the buffer", m.word(1), 8);
        m.drain(2);
        Check.due("in M", m.word(1), 9);
        Check.due("memory", m.memory(1), 8);
        Rig.drop(m, 2, 1);
        Check.due("in no line", m.word(1), 9);
        m.poke(1, 10);
        Check.due("poked, where a line was M once", m.word(1), 10);
    }

    private static void objectsApart() {
        Check.sentence("Programs, buffers and caches are empty.");
        String fresh = Rig.view(new BufferedCores(4));
        BufferedCores used = new BufferedCores(4);
        Rig.write(used, 0, 3, 30);
        Rig.buffer(used, 0, 2, 20);
        Rig.askToRead(used, 1, 6);
        used.poke(5, 50);
        Check.due("a new object beside a used one", Rig.view(new BufferedCores(4)), fresh);
        Check.due("its program", new BufferedCores(4).step(0), ENDED);
    }
}
