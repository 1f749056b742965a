import java.util.NoSuchElementException;

/** Promises 8 to 17: the edges of the calls that look, sentence by sentence. */
final class LookEdgesTest {
    private static final int MIN = Integer.MIN_VALUE, MAX = Integer.MAX_VALUE;
    private static final Class<IllegalArgumentException> ARGUMENT = IllegalArgumentException.class;
    private static final Class<NoSuchElementException> NONE = NoSuchElementException.class;

    public static void main(String[] args) {
        register();
        place();
        buffered();
        storeAddress();
        storeValue();
        storesThatAreGone();
        lineState();
        lineNumber();
        cachedAddress();
        cachedNone();
        request();
        memory();
        word();
        Check.end();
    }

    private static void register() {
        Check.sentence("IllegalArgumentException when r is not 0 .. 3.");
        BufferedCores m = new BufferedCores(1);
        for (int core = 0; core < 3; core++) {
            int c = core;
            for (int r = 0; r < 4; r++) {
                Rig.run(m, core, Rig.SET, r, 4 * core + r);
                Check.due("register " + r, m.register(core, r), 4 * core + r);
            }
            for (int r : Rig.outside(3)) {
                Check.throwing("register " + r, ARGUMENT, () -> m.register(c, r));
            }
        }
    }

    private static void place() {
        Check.sentence("The place of a core.");
        BufferedCores m = new BufferedCores(1);
        for (int i = 0; i < 16; i++) {
            Check.due("place", m.place(1), i);
            Rig.run(m, 1, Rig.SET, 0, 1);
        }
        Check.due("place at the end", m.place(1), 16);
        m.step(1);
        Check.due("place at the end still", m.place(1), 16);
    }

    private static void buffered() {
        Check.sentence("How many stores are in a core's buffer.");
        BufferedCores m = new BufferedCores(4);
        for (int i = 0; i < 4; i++) {
            Check.due("buffered", m.buffered(2), i);
            Rig.run(m, 2, Rig.STORE, 0, 0);
        }
        Check.due("a full one", m.buffered(2), 4);
        Rig.run(m, 2, Rig.STORE, 0, 0);
        Check.due("a full one still", m.buffered(2), 4);
        for (int i = 3; i >= 0; i--) {
            Rig.drainThrough(m, 2);
            Check.due("buffered", m.buffered(2), i);
        }
        m.drain(2);
        Check.due("an empty one", m.buffered(2), 0);
        Check.due("another core's", m.buffered(0), 0);
    }

    private static void storeAddress() {
        Check.sentence("The address of store i (0 the oldest) in a core's buffer. NoSuchElementException when there is none.");
        for (int n = 0; n <= 4; n++) {
            BufferedCores m = withStores(n);
            for (int i = 0; i < n; i++) {
                Check.due("store " + i + " of " + n, m.storeAddress(1, i), 7 - i);
            }
            for (int i : Rig.outside(n - 1)) {
                Check.throwing("store " + i + " of " + n, NONE, () -> m.storeAddress(1, i));
            }
            Check.throwing("another core's", NONE, () -> m.storeAddress(0, 0));
        }
    }

    private static void storeValue() {
        Check.sentence("The value of store i in a core's buffer. NoSuchElementException when there is none.");
        for (int n = 0; n <= 4; n++) {
            BufferedCores m = withStores(n);
            for (int i = 0; i < n; i++) {
                Check.due("store " + i + " of " + n, m.storeValue(1, i), MIN + i);
            }
            for (int i : Rig.outside(n - 1)) {
                Check.throwing("store " + i + " of " + n, NONE, () -> m.storeValue(1, i));
            }
            Check.throwing("another core's", NONE, () -> m.storeValue(0, 0));
        }
    }

    private static void storesThatAreGone() {
        Check.sentence("NoSuchElementException when there is none.");
        BufferedCores m = withStores(4);
        for (int left = 3; left >= 0; left--) {
            int gone = left;
            Rig.drainThrough(m, 1);
            Check.throwing("storeAddress behind a drain", NONE, () -> m.storeAddress(1, gone));
            Check.throwing("storeValue behind a drain", NONE, () -> m.storeValue(1, gone));
            for (int i = 0; i < left; i++) {
                Check.due("storeAddress " + i, m.storeAddress(1, i), 7 - (i + 4 - left));
                Check.due("storeValue " + i, m.storeValue(1, i), MIN + i + 4 - left);
            }
        }
    }

    /** Core 1 has stores to 7, 6, 5 .. in its buffer. */
    private static BufferedCores withStores(int n) {
        BufferedCores m = new BufferedCores(4);
        for (int i = 0; i < n; i++) {
            Rig.buffer(m, 1, 7 - i, MIN + i);
        }
        return m;
    }

    private static void lineState() {
        Check.sentence("The state of a core's line i, plus 4 times its address if it is not I.");
        for (int x = 0; x < 8; x++) {
            BufferedCores m = new BufferedCores(1);
            int i = x % 2;
            Check.due("I at first", m.line(2, i), 0);
            Rig.read(m, 2, x);
            Check.due("E", m.line(2, i), 2 + 4 * x);
            Rig.write(m, 2, x, 1);
            Check.due("M", m.line(2, i), 3 + 4 * x);
            Rig.read(m, 0, x);
            Check.due("S", m.line(2, i), 1 + 4 * x);
            Rig.write(m, 0, x, 1);
            Check.due("I, where an address was", m.line(2, i), 0);
            Rig.askToRead(m, 0, (x + 2) % 8);
            m.grant(0);
            Check.due("I, where it made room", m.line(0, i), 0);
        }
    }

    private static void lineNumber() {
        Check.sentence("IllegalArgumentException when i is not 0 or 1.");
        BufferedCores m = new BufferedCores(1);
        for (int core = 0; core < 3; core++) {
            int c = core;
            Check.fine("line 0", () -> m.line(c, 0));
            Check.fine("line 1", () -> m.line(c, 1));
            for (int i : Rig.outside(1)) {
                Check.throwing("line " + i, ARGUMENT, () -> m.line(c, i));
            }
        }
    }

    private static void cachedAddress() {
        Check.sentence("The value that a core's line has for x. IllegalArgumentException when x is not 0 .. 7");
        BufferedCores m = new BufferedCores(1);
        m.poke(0, MIN);
        m.poke(7, MAX);
        Rig.read(m, 1, 0);
        Rig.read(m, 1, 7);
        Check.due("cached 0", m.cached(1, 0), MIN);
        Check.due("cached 7", m.cached(1, 7), MAX);
        for (int core = 0; core < 3; core++) {
            int c = core;
            for (int x : Rig.outside(7)) {
                Check.throwing("cached " + x, ARGUMENT, () -> m.cached(c, x));
            }
        }
    }

    private static void cachedNone() {
        Check.sentence("NoSuchElementException when the core has not x.");
        for (int x = 0; x < 8; x++) {
            int address = x;
            BufferedCores m = new BufferedCores(1);
            Check.throwing("at first", NONE, () -> m.cached(0, address));
            Rig.askToRead(m, 0, x);
            Check.throwing("waiting", NONE, () -> m.cached(0, address));
            m.grant(0);
            Check.throwing("in flight", NONE, () -> m.cached(0, address));
            m.fill(0);
            Check.due("filled", m.cached(0, x), 0);
            m.step(0);
            for (int y = 0; y < 8; y++) {
                int other = y;
                if (y != x) {
                    Check.throwing("another word", NONE, () -> m.cached(0, other));
                }
            }
            Check.throwing("another core's", NONE, () -> m.cached(1, address));
            Rig.buffer(m, 0, x, 5);
            Check.due("a store in the buffer is not in the line", m.cached(0, x), 0);
            Rig.write(m, 1, x, 6);
            Check.throwing("taken away", NONE, () -> m.cached(0, address));
        }
    }

    private static void request() {
        Check.sentence("0 for none, otherwise 1 for reading, 2 for owning, plus 4 if it is in flight, plus 8 times its address");
        for (int core = 0; core < 3; core++) {
            for (int x = 0; x < 8; x++) {
                BufferedCores m = new BufferedCores(1);
                Check.due("none", m.request(core), 0);
                Rig.askToRead(m, core, x);
                Check.due("reading", m.request(core), 1 + 8 * x);
                m.grant(core);
                Check.due("reading, in flight", m.request(core), 5 + 8 * x);
                m.fill(core);
                Check.due("none", m.request(core), 0);
                m.step(core);
                int y = 7 - x;
                Rig.askToOwn(m, core, y, 1);
                Check.due("owning", m.request(core), 2 + 8 * y);
                m.grant(core);
                Check.due("owning, in flight", m.request(core), 6 + 8 * y);
                m.fill(core);
                Check.due("none", m.request(core), 0);
            }
        }
    }

    private static void memory() {
        Check.sentence("Memory's word at x. IllegalArgumentException when x is not 0 .. 7.");
        BufferedCores m = new BufferedCores(1);
        for (int x = 0; x < 8; x++) {
            m.poke(x, MIN + x);
        }
        Rig.write(m, 0, 0, 1);
        Rig.write(m, 0, 7, 1);
        for (int x = 0; x < 8; x++) {
            Check.due("memory " + x, m.memory(x), MIN + x);
        }
        for (int x : Rig.outside(7)) {
            Check.throwing("memory " + x, ARGUMENT, () -> m.memory(x));
        }
    }

    private static void word() {
        Check.sentence("THE WORD at x. IllegalArgumentException when x is not 0 .. 7.");
        BufferedCores m = new BufferedCores(1);
        for (int x = 0; x < 8; x++) {
            m.poke(x, MIN + x);
        }
        Rig.write(m, 2, 0, MAX);
        Rig.write(m, 2, 7, MAX - 7);
        for (int x = 0; x < 8; x++) {
            Check.due("word " + x, m.word(x), x == 0 || x == 7 ? MAX - x : MIN + x);
        }
        for (int x : Rig.outside(7)) {
            Check.throwing("word " + x, ARGUMENT, () -> m.word(x));
        }
    }
}
