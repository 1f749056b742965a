import java.util.NoSuchElementException;

/** The log and promises 18 to 20: their edges, sentence by sentence. */
final class LogEdgesTest {
    private static final Class<NoSuchElementException> NONE = NoSuchElementException.class;
    private static final int DONE = BufferedCores.DONE;

    public static void main(String[] args) {
        whatIsAnEvent();
        whatIsNone();
        valueLoaded();
        valueWritten();
        valueFound();
        howMany();
        kindCoreAndAddress();
        noneSuch();
        latestForty();
        valueAsThere();
        wrapsAround();
        lastCall();
        Check.end();
    }

    private static void whatIsAnEvent() {
        Check.sentence("a LOAD that was done, a store that was drained, a SWAP that was done");
        BufferedCores m = new BufferedCores(1);
        Rig.read(m, 0, 1);
        Check.due("a LOAD from a line", m.events(), 1);
        Rig.run(m, 0, Rig.STORE, 0, 0);
        Rig.run(m, 0, Rig.LOAD, 1, 0);
        Check.due("a LOAD from the buffer", m.events(), 2);
        m.drain(0);
        Check.due("a drain", m.events(), 3);
        Rig.run(m, 0, Rig.SET, 3, 1);
        Rig.run(m, 0, Rig.SWAP, 0, 2);
        Check.due("a SWAP that found r3", m.events(), 4);
        Rig.run(m, 0, Rig.SWAP, 0, 2);
        Check.due("a SWAP that did not", m.events(), 5);
    }

    private static void whatIsNone() {
        Check.sentence("a LOAD that was done, a store that was drained, a SWAP that was done");
        BufferedCores m = new BufferedCores(1);
        Rig.askToRead(m, 0, 1);
        m.grant(0);
        m.fill(0);
        Rig.run(m, 1, Rig.SWAP, 0, 1);
        Rig.run(m, 2, Rig.FENCE, 0, 0);
        Rig.run(m, 2, Rig.SET, 0, 1);
        Rig.run(m, 2, Rig.ADD, 0, 1);
        Rig.run(m, 2, Rig.STORE, 0, 1);
        Rig.run(m, 2, Rig.STORE, 0, 1);
        m.drain(2);
        m.drain(1);
        m.poke(5, 5);
        m.grant(2);
        Check.due("events", m.events(), 0);
        Check.throwing("event", NONE, () -> m.event(0));
    }

    private static void valueLoaded() {
        Check.sentence("the value that was loaded, written, or found there");
        BufferedCores m = new BufferedCores(1);
        m.poke(6, Integer.MIN_VALUE);
        Rig.read(m, 2, 6);
        entry(m, 0, Rig.event(0, 2, 6), Integer.MIN_VALUE);
        Rig.buffer(m, 2, 6, Integer.MAX_VALUE);
        Rig.run(m, 2, Rig.LOAD, 0, 0);
        entry(m, 1, Rig.event(0, 2, 6), Integer.MAX_VALUE);
    }

    private static void valueWritten() {
        Check.sentence("the value that was loaded, written, or found there");
        BufferedCores m = new BufferedCores(2);
        Rig.buffer(m, 1, 7, -1);
        Rig.buffer(m, 1, 7, Integer.MIN_VALUE);
        Rig.drainThrough(m, 1);
        entry(m, 0, Rig.event(1, 1, 7), -1);
        Rig.drainThrough(m, 1);
        entry(m, 1, Rig.event(1, 1, 7), Integer.MIN_VALUE);
    }

    private static void valueFound() {
        Check.sentence("the value that was loaded, written, or found there");
        BufferedCores m = new BufferedCores(1);
        m.poke(2, 9);
        Rig.read(m, 0, 2);
        Rig.run(m, 0, Rig.SET, 3, 9);
        Rig.run(m, 0, Rig.SWAP, 0, 3);
        entry(m, 1, Rig.event(2, 0, 2), 9);
        Rig.run(m, 0, Rig.SET, 1, 8);
        Rig.run(m, 0, Rig.SET, 3, 9);
        Rig.run(m, 0, Rig.SWAP, 0, 1);
        entry(m, 2, Rig.event(2, 0, 2), 9);
        Rig.run(m, 0, Rig.SWAP, 0, 1);
        entry(m, 3, Rig.event(2, 0, 2), 8);
    }

    private static void howMany() {
        Check.sentence("How many events there were.");
        BufferedCores m = writer();
        for (int i = 0; i < 100; i++) {
            Check.due("events", m.events(), i);
            writeNext(m, i);
        }
    }

    private static void kindCoreAndAddress() {
        Check.sentence("its kind (LOAD 0, store 1, SWAP 2) plus 4 times its core plus 16 times its address");
        for (int core = 0; core < 3; core++) {
            for (int x = 0; x < 8; x++) {
                BufferedCores m = new BufferedCores(1);
                Rig.write(m, core, x, 5);
                Rig.run(m, core, Rig.LOAD, 2, 0);
                Rig.run(m, core, Rig.SWAP, 0, 1);
                entry(m, 0, 1 + 4 * core + 16 * x, 5);
                entry(m, 1, 4 * core + 16 * x, 5);
                entry(m, 2, 2 + 4 * core + 16 * x, 5);
            }
        }
    }

    private static void noneSuch() {
        Check.sentence("NoSuchElementException when there is none such, or it is not among the latest 40.");
        for (int count : new int[] {0, 1, 5, 39, 40, 41, 80}) {
            BufferedCores m = written(count);
            for (int i : new int[] {-1, -2, -39, -40, -41, -80, Integer.MIN_VALUE, Integer.MIN_VALUE + 40}) {
                missing(m, i);
            }
            for (int i : new int[] {count, count + 1, count + 39, count + 40, count + 41, Integer.MAX_VALUE - 39,
                Integer.MAX_VALUE}) {
                missing(m, i);
            }
        }
    }

    private static void latestForty() {
        Check.sentence("NoSuchElementException when there is none such, or it is not among the latest 40.");
        for (int count : new int[] {1, 39, 40, 41, 42, 79, 80, 81, 121}) {
            BufferedCores m = written(count);
            int oldest = Math.max(0, count - 40);
            missing(m, oldest - 1);
            for (int i = oldest; i < count; i++) {
                writing(m, i);
            }
            missing(m, count);
        }
    }

    private static void valueAsThere() {
        Check.sentence("The value of the event that was the i-th one. NoSuchElementException as there.");
        for (int count : new int[] {0, 1, 40, 41, 81}) {
            BufferedCores m = written(count);
            int oldest = Math.max(0, count - 40);
            for (int i : new int[] {oldest - 1, count, Integer.MIN_VALUE, Integer.MAX_VALUE}) {
                Check.throwing("eventValue " + i, NONE, () -> m.eventValue(i));
            }
            if (count > 0) {
                Check.due("the oldest", m.eventValue(oldest), oldest);
                Check.due("the newest", m.eventValue(count - 1), count - 1);
            }
        }
    }

    /** The oldest leaves as the newest comes, also where the numbers pass 80. */
    private static void wrapsAround() {
        Check.sentence("THE LOG has the latest 40 EVENTS");
        BufferedCores m = written(70);
        for (int i = 70; i < 90; i++) {
            writing(m, i - 40);
            writeNext(m, i);
            missing(m, i - 40);
            writing(m, i - 39);
            writing(m, i);
        }
    }

    /** As many events as the calls of an object can make; the last of the 512 calls answers as the first. */
    private static void lastCall() {
        Check.sentence("An object is used for at most 512 calls after it has been made");
        BufferedCores counted = new BufferedCores(1);
        int loads = loadUntilOneCallIsLeft(counted);
        Check.due("events as call 512", counted.events(), loads);
        BufferedCores oldest = new BufferedCores(1);
        loadUntilOneCallIsLeft(oldest);
        Check.due("event as call 512", oldest.event(loads - 40), Rig.event(0, 2, 7));
        BufferedCores newest = new BufferedCores(1);
        loadUntilOneCallIsLeft(newest);
        Check.due("eventValue as call 512", newest.eventValue(loads - 1), 70);
        BufferedCores left = new BufferedCores(1);
        loadUntilOneCallIsLeft(left);
        Check.throwing("event as call 512", NONE, () -> left.event(loads - 41));
    }

    /** 511 calls: core 2 loads 7 again and again; how often. */
    private static int loadUntilOneCallIsLeft(BufferedCores m) {
        m.code(2, Rig.SET, 0, 7);
        m.code(2, Rig.SET, 2, 1);
        for (int i = 0; i < 13; i++) {
            m.code(2, Rig.LOAD, 1, 0);
        }
        m.code(2, Rig.BRANCH, 2, 2);
        m.poke(7, 70);
        m.step(2);
        m.step(2);
        m.step(2);
        Rig.serve(m, 2);
        int loads = 0;
        int at = 2;
        for (int calls = 22; calls < 511; calls++) {
            Check.due("step", m.step(2), DONE);
            loads += at < 15 ? 1 : 0;
            at = at < 15 ? at + 1 : 2;
        }
        return loads;
    }

    /** Core 1 is where it can store 0, 1, 2 .. to 3 and 4 in turn, in a program that goes back after six stores. */
    private static BufferedCores writer() {
        BufferedCores m = new BufferedCores(1);
        m.code(1, Rig.SET, 0, 3);
        m.code(1, Rig.SET, 3, 4);
        m.code(1, Rig.SET, 2, 1);
        for (int i = 0; i < 6; i++) {
            m.code(1, Rig.STORE, i % 2 == 0 ? 0 : 3, 1);
            m.code(1, Rig.ADD, 1, 2);
        }
        m.code(1, Rig.BRANCH, 2, 3);
        m.step(1);
        m.step(1);
        m.step(1);
        return m;
    }

    private static void writeNext(BufferedCores m, int i) {
        if (i > 0 && i % 6 == 0) {
            m.step(1);
        }
        m.step(1);
        m.step(1);
        Rig.drainThrough(m, 1);
    }

    private static BufferedCores written(int count) {
        BufferedCores m = writer();
        for (int i = 0; i < count; i++) {
            writeNext(m, i);
        }
        return m;
    }

    private static void writing(BufferedCores m, int i) {
        entry(m, i, Rig.event(1, 1, 3 + i % 2), i);
    }

    private static void entry(BufferedCores m, int i, int event, int value) {
        Check.due("event " + i, m.event(i), event);
        Check.due("eventValue " + i, m.eventValue(i), value);
    }

    private static void missing(BufferedCores m, int i) {
        Check.throwing("event " + i, NONE, () -> m.event(i));
        Check.throwing("eventValue " + i, NONE, () -> m.eventValue(i));
    }
}
