import java.util.NoSuchElementException;

/** Promises 8 to 17: the calls that only look. */
final class ViewTest {
    private static final Class<IndexOutOfBoundsException> INDEX = IndexOutOfBoundsException.class;
    private static final Class<IllegalArgumentException> ARGUMENT = IllegalArgumentException.class;
    private static final Class<NoSuchElementException> NONE = NoSuchElementException.class;
    private static final int[] NO_CORES = {-1, 3, Integer.MIN_VALUE, Integer.MAX_VALUE};

    public static void main(String[] args) {
        wrongCores();
        registers();
        places();
        stores();
        lines();
        cached();
        requests();
        memoryAndWord();
        Check.end();
    }

    /** The core is looked at first: the other numbers are wrong too. */
    private static void wrongCores() {
        BufferedCores m = new BufferedCores(1);
        for (int core : NO_CORES) {
            Check.throwing("register", INDEX, () -> m.register(core, 4));
            Check.throwing("place", INDEX, () -> m.place(core));
            Check.throwing("buffered", INDEX, () -> m.buffered(core));
            Check.throwing("storeAddress", INDEX, () -> m.storeAddress(core, 0));
            Check.throwing("storeValue", INDEX, () -> m.storeValue(core, 0));
            Check.throwing("line", INDEX, () -> m.line(core, 2));
            Check.throwing("cached", INDEX, () -> m.cached(core, 8));
            Check.throwing("request", INDEX, () -> m.request(core));
        }
    }

    private static void registers() {
        BufferedCores m = new BufferedCores(1);
        for (int core = 0; core < 3; core++) {
            for (int r = 0; r < 4; r++) {
                Rig.run(m, core, Rig.SET, r, 10 * core - r);
            }
        }
        for (int core = 0; core < 3; core++) {
            for (int r = 0; r < 4; r++) {
                Check.due("register", m.register(core, r), 10 * core - r);
            }
            int c = core;
            for (int r : new int[] {-1, 4, Integer.MIN_VALUE, Integer.MAX_VALUE}) {
                Check.throwing("register " + r, ARGUMENT, () -> m.register(c, r));
            }
        }
    }

    private static void places() {
        BufferedCores m = new BufferedCores(1);
        for (int i = 1; i <= 16; i++) {
            Rig.run(m, 1, Rig.FENCE, 0, 0);
            Check.due("place", m.place(1), i);
        }
        m.step(1);
        Check.due("place behind the end", m.place(1), 16);
        Check.due("place", m.place(0), 0);
        Check.due("place", m.place(2), 0);
    }

    private static void stores() {
        BufferedCores m = new BufferedCores(4);
        for (int i = 0; i < 4; i++) {
            Check.due("buffered", m.buffered(2), i);
            int next = i;
            Check.throwing("storeAddress", NONE, () -> m.storeAddress(2, next));
            Check.throwing("storeValue", NONE, () -> m.storeValue(2, next));
            Rig.buffer(m, 2, 7 - i, -i);
        }
        for (int i = 0; i < 4; i++) {
            Check.due("storeAddress", m.storeAddress(2, i), 7 - i);
            Check.due("storeValue", m.storeValue(2, i), -i);
        }
        for (int i : new int[] {-1, 4, Integer.MIN_VALUE, Integer.MAX_VALUE}) {
            Check.throwing("storeAddress", NONE, () -> m.storeAddress(2, i));
            Check.throwing("storeValue", NONE, () -> m.storeValue(2, i));
        }
        Check.due("buffered", m.buffered(2), 4);
        Check.due("another core's", m.buffered(1), 0);
        Check.throwing("another core's", NONE, () -> m.storeAddress(1, 0));
    }

    private static void lines() {
        for (int x = 0; x < 8; x++) {
            BufferedCores m = new BufferedCores(1);
            Rig.read(m, 1, x);
            Check.due("line in E", m.line(1, x % 2), 2 + 4 * x);
            Check.due("the other line", m.line(1, 1 - x % 2), 0);
            Rig.read(m, 0, x);
            Check.due("line in S", m.line(1, x % 2), 1 + 4 * x);
            Rig.write(m, 1, x, 1);
            Check.due("line in M", m.line(1, x % 2), 3 + 4 * x);
            Check.due("line in I", m.line(0, x % 2), 0);
        }
        BufferedCores m = new BufferedCores(1);
        for (int i : new int[] {-1, 2, Integer.MIN_VALUE, Integer.MAX_VALUE}) {
            Check.throwing("line " + i, ARGUMENT, () -> m.line(0, i));
        }
    }

    private static void cached() {
        BufferedCores m = new BufferedCores(1);
        m.poke(0, 100);
        m.poke(5, 105);
        Check.throwing("nothing is cached for 0", NONE, () -> m.cached(1, 0));
        Rig.read(m, 1, 0);
        Rig.read(m, 1, 5);
        for (int x = 0; x < 8; x++) {
            int address = x;
            if (x == 0 || x == 5) {
                Check.due("cached", m.cached(1, x), 100 + x);
            } else {
                Check.throwing("cached " + x, NONE, () -> m.cached(1, address));
            }
        }
        Check.throwing("another core's", NONE, () -> m.cached(0, 0));
        for (int x : new int[] {-1, 8, Integer.MIN_VALUE, Integer.MAX_VALUE}) {
            Check.throwing("cached " + x, ARGUMENT, () -> m.cached(1, x));
        }
    }

    private static void requests() {
        for (int x = 0; x < 8; x++) {
            BufferedCores m = new BufferedCores(1);
            Rig.askToRead(m, 0, x);
            Check.due("reading, waiting", m.request(0), 1 + 8 * x);
            m.grant(0);
            Check.due("reading, in flight", m.request(0), 5 + 8 * x);
            m.fill(0);
            Check.due("none", m.request(0), 0);
            Rig.askToOwn(m, 2, x, 1);
            Check.due("owning, waiting", m.request(2), 2 + 8 * x);
            m.grant(2);
            Check.due("owning, in flight", m.request(2), 6 + 8 * x);
            m.fill(2);
            Check.due("none", m.request(2), 0);
            Check.due("another core's", m.request(1), 0);
        }
    }

    private static void memoryAndWord() {
        for (int core = 0; core < 3; core++) {
            BufferedCores m = new BufferedCores(1);
            m.poke(3, 1);
            Rig.buffer(m, core, 3, 2);
            Check.due("a buffered store is not the word", m.word(3), 1);
            m.drain(core);
            m.grant(core);
            m.fill(core);
            Check.due("nor with the line in E", m.word(3), 1);
            m.drain(core);
            Check.due("word", m.word(3), 2);
            Check.due("memory", m.memory(3), 1);
            Check.due("the line's other word", m.word(1), 0);
            Rig.read(m, (core + 1) % 3, 3);
            Check.due("word", m.word(3), 2);
            Check.due("memory", m.memory(3), 2);
        }
        BufferedCores m = new BufferedCores(1);
        for (int x : new int[] {-1, 8, Integer.MIN_VALUE, Integer.MAX_VALUE}) {
            Check.throwing("memory " + x, ARGUMENT, () -> m.memory(x));
            Check.throwing("word " + x, ARGUMENT, () -> m.word(x));
        }
    }
}
