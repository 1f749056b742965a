import java.util.NoSuchElementException;

/** Promises 18 to 20: events, event, eventValue. */
final class LogTest {
    private static final Class<NoSuchElementException> NONE = NoSuchElementException.class;

    public static void main(String[] args) {
        empty();
        kinds();
        latestForty();
        Check.end();
    }

    private static void empty() {
        BufferedCores m = new BufferedCores(1);
        Check.due("events", m.events(), 0);
        missing(m, 0);
        missing(m, -1);
        missing(m, -40);
        missing(m, Integer.MIN_VALUE);
        missing(m, Integer.MAX_VALUE);
    }

    private static void kinds() {
        BufferedCores m = new BufferedCores(1);
        m.poke(7, 9);
        Rig.read(m, 2, 7);
        entry(m, 0, 0 + 4 * 2 + 16 * 7, 9);
        Rig.write(m, 1, 7, 8);
        entry(m, 1, 1 + 4 * 1 + 16 * 7, 8);
        Rig.run(m, 1, Rig.SET, 3, 8);
        Rig.run(m, 1, Rig.SWAP, 0, 0);
        entry(m, 2, 2 + 4 * 1 + 16 * 7, 8);
        Rig.run(m, 1, Rig.SWAP, 0, 0);
        entry(m, 3, 2 + 4 * 1 + 16 * 7, 7);
        Check.due("events", m.events(), 4);
        missing(m, 4);
    }

    private static void latestForty() {
        for (int count = 39; count <= 42; count++) {
            BufferedCores m = writing(count);
            Check.due("events", m.events(), count);
            int oldest = Math.max(0, count - 40);
            missing(m, oldest - 1);
            for (int i = oldest; i < count; i++) {
                written(m, i);
            }
            missing(m, count);
        }
        BufferedCores m = writing(90);
        Check.due("events", m.events(), 90);
        for (int i : new int[] {-1, 0, 9, 10, 49, 90, 130, Integer.MIN_VALUE, Integer.MAX_VALUE}) {
            missing(m, i);
        }
        for (int i : new int[] {50, 51, 79, 80, 81, 89}) {
            written(m, i);
        }
    }

    /** The cores write in turn, each 1, 2, 3 .. to the address that is its number. */
    private static BufferedCores writing(int count) {
        BufferedCores m = new BufferedCores(1);
        for (int core = 0; core < 3; core++) {
            m.code(core, Rig.SET, 0, core);
            m.code(core, Rig.SET, 2, 1);
            m.code(core, Rig.ADD, 1, 2);
            m.code(core, Rig.STORE, 0, 1);
            m.code(core, Rig.BRANCH, 2, 2);
            m.step(core);
        }
        for (int i = 0; i < count; i++) {
            writeNext(m, i % 3);
        }
        return m;
    }

    /** The step before ADD and STORE is the second SET or the BRANCH back. */
    private static void writeNext(BufferedCores m, int core) {
        m.step(core);
        m.step(core);
        m.step(core);
        Rig.drainThrough(m, core);
    }

    private static void written(BufferedCores m, int i) {
        entry(m, i, Rig.event(1, i % 3, i % 3), i / 3 + 1);
    }

    private static void entry(BufferedCores m, int i, int event, int value) {
        Check.due("event " + i, m.event(i), event);
        Check.due("eventValue " + i, m.eventValue(i), value);
    }

    private static void missing(BufferedCores m, int i) {
        Check.throwing("event " + i, NONE, () -> m.event(i));
        Check.throwing("eventValue " + i, NONE, () -> m.eventValue(i));
    }
}
