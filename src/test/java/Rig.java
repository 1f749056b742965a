import java.util.NoSuchElementException;
import java.util.function.IntSupplier;

/** What the tests do again and again with an object. */
final class Rig {
    static final int LOAD = 0, STORE = 1, FENCE = 2, SWAP = 3, ADD = 4, SET = 5, BRANCH = 6, HALT = 7;
    static final int I = 0, S = 1, E = 2, M = 3;
    static final int READING = 1, OWNING = 2, FLYING = 4;

    private Rig() {
    }

    /** Numbers that are not among 0 .. last: next to them, and far off. */
    static int[] outside(int last) {
        return new int[] {-1, -2, last + 1, last + 2, 256, 65536, Integer.MIN_VALUE, Integer.MAX_VALUE};
    }

    /** Grants and fills the core's request. */
    static void serve(BufferedCores m, int core) {
        m.grant(core);
        m.fill(core);
    }

    /** The core's oldest store is drained, over the bus if the core does not own its address. */
    static void drainThrough(BufferedCores m, int core) {
        if (m.drain(core) == BufferedCores.STOPPED) {
            serve(m, core);
            m.drain(core);
        }
    }

    /** The core reads another word of the same line: it has x no more. */
    static void drop(BufferedCores m, int core, int x) {
        read(m, core, (x + 2) % 8);
    }

    /** Appends an instruction to a core that is at its program's end, and steps it once. */
    static int run(BufferedCores m, int core, int op, int a, int b) {
        int length = m.code(core, op, a, b);
        Check.due("the place of a core that the rig runs", m.place(core), length - 1);
        return m.step(core);
    }

    /** The core asks for reading x and stops; two instructions, register 0 has x. */
    static void askToRead(BufferedCores m, int core, int x) {
        run(m, core, SET, 0, x);
        run(m, core, LOAD, 1, 0);
    }

    /** The core loads x over the bus into register 1. */
    static void read(BufferedCores m, int core, int x) {
        askToRead(m, core, x);
        serve(m, core);
        m.step(core);
    }

    /** The core buffers a store of v to x; three instructions, registers 0 and 1 have x and v. */
    static void buffer(BufferedCores m, int core, int x, int v) {
        run(m, core, SET, 0, x);
        run(m, core, SET, 1, v);
        run(m, core, STORE, 0, 1);
    }

    /** The core asks for owning x, for a store of v that it has buffered. */
    static void askToOwn(BufferedCores m, int core, int x, int v) {
        buffer(m, core, x, v);
        m.drain(core);
    }

    /** The core writes v to x: its line is M then. */
    static void write(BufferedCores m, int core, int x, int v) {
        askToOwn(m, core, x, v);
        serve(m, core);
        m.drain(core);
    }

    static int line(int state, int x) {
        return state + 4 * x;
    }

    static int request(int kind, int x) {
        return kind + 8 * x;
    }

    static int event(int kind, int core, int x) {
        return kind + 4 * core + 16 * x;
    }

    /** All that an object shows; some 70 calls, and two for each event that it keeps. */
    static String view(BufferedCores m) {
        StringBuilder out = new StringBuilder();
        for (int core = 0; core < 3; core++) {
            viewCore(m, core, out);
        }
        for (int x = 0; x < 8; x++) {
            out.append(" memory ").append(m.memory(x)).append(" word ").append(m.word(x));
        }
        int count = m.events();
        out.append("\nevents ").append(count);
        for (int i = Math.max(0, count - 40); i < count; i++) {
            out.append(' ').append(m.event(i)).append(':').append(m.eventValue(i));
        }
        return out.toString();
    }

    private static void viewCore(BufferedCores m, int core, StringBuilder out) {
        out.append("core ").append(core).append(" place ").append(m.place(core)).append(" registers");
        for (int r = 0; r < 4; r++) {
            out.append(' ').append(m.register(core, r));
        }
        out.append(" buffer");
        for (int i = 0; i < m.buffered(core); i++) {
            out.append(' ').append(m.storeAddress(core, i)).append(':').append(m.storeValue(core, i));
        }
        out.append(" lines ").append(m.line(core, 0)).append(' ').append(m.line(core, 1)).append(" cached");
        for (int x = 0; x < 8; x++) {
            int address = x;
            out.append(' ').append(orNone(() -> m.cached(core, address)));
        }
        out.append(" request ").append(m.request(core)).append('\n');
    }

    private static String orNone(IntSupplier call) {
        try {
            return Integer.toString(call.getAsInt());
        } catch (NoSuchElementException e) {
            return "-";
        }
    }
}
