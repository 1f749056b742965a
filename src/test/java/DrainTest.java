/** Promise 5: drain. */
final class DrainTest {
    private static final int STOPPED = BufferedCores.STOPPED, DONE = BufferedCores.DONE;
    private static final int NOTHING = BufferedCores.NOTHING;

    public static void main(String[] args) {
        wrongCores();
        asksForOwning();
        oldestFirst();
        fromSharedAsks();
        fromExclusive();
        Check.end();
    }

    private static void wrongCores() {
        BufferedCores m = new BufferedCores(1);
        for (int core : new int[] {-1, 3, Integer.MIN_VALUE, Integer.MAX_VALUE}) {
            Check.throwing("drain of core " + core, IndexOutOfBoundsException.class, () -> m.drain(core));
        }
    }

    private static void asksForOwning() {
        BufferedCores m = new BufferedCores(2);
        Check.due("drain, empty", m.drain(1), NOTHING);
        Rig.buffer(m, 1, 5, 50);
        Check.due("drain", m.drain(1), STOPPED);
        Check.due("request", m.request(1), Rig.request(Rig.OWNING, 5));
        Check.due("buffered", m.buffered(1), 1);
        Check.due("drain again", m.drain(1), STOPPED);
        m.grant(1);
        Check.due("drain in flight", m.drain(1), STOPPED);
        Check.due("request", m.request(1), Rig.request(Rig.OWNING + Rig.FLYING, 5));
        m.fill(1);
        Check.due("drain", m.drain(1), DONE);
        Check.due("line", m.line(1, 1), Rig.line(Rig.M, 5));
        Check.due("cached", m.cached(1, 5), 50);
        Check.due("memory", m.memory(5), 0);
        Check.due("word", m.word(5), 50);
        Check.due("buffered", m.buffered(1), 0);
        Check.due("event", m.event(0), Rig.event(1, 1, 5));
        Check.due("event's value", m.eventValue(0), 50);
        Check.due("drain, empty", m.drain(1), NOTHING);
        Check.due("the place stays", m.place(1), 3);
    }

    private static void oldestFirst() {
        BufferedCores m = new BufferedCores(3);
        Rig.buffer(m, 0, 2, 21);
        Rig.buffer(m, 0, 3, 31);
        Rig.buffer(m, 0, 2, 22);
        m.drain(0);
        m.grant(0);
        m.fill(0);
        Check.due("drain", m.drain(0), DONE);
        Check.due("the oldest is written", m.cached(0, 2), 21);
        Check.due("buffered", m.buffered(0), 2);
        Check.due("oldest now", m.storeAddress(0, 0), 3);
        Check.due("its value", m.storeValue(0, 0), 31);
        Check.due("youngest", m.storeAddress(0, 1), 2);
        Check.due("its value", m.storeValue(0, 1), 22);
        Check.due("the next has to wait, though the last is owned", m.drain(0), STOPPED);
        m.grant(0);
        m.fill(0);
        Check.due("drain", m.drain(0), DONE);
        Check.due("drain into M", m.drain(0), DONE);
        Check.due("cached", m.cached(0, 2), 22);
        Check.due("cached", m.cached(0, 3), 31);
    }

    private static void fromSharedAsks() {
        BufferedCores m = new BufferedCores(1);
        Rig.read(m, 0, 4);
        Rig.read(m, 1, 4);
        Rig.buffer(m, 0, 4, 9);
        Check.due("drain into S", m.drain(0), STOPPED);
        Check.due("request", m.request(0), Rig.request(Rig.OWNING, 4));
        Check.due("cached", m.cached(0, 4), 0);
    }

    private static void fromExclusive() {
        BufferedCores m = new BufferedCores(1);
        Rig.read(m, 2, 4);
        Rig.buffer(m, 2, 4, 9);
        Check.due("drain into E", m.drain(2), DONE);
        Check.due("line", m.line(2, 0), Rig.line(Rig.M, 4));
        Check.due("cached", m.cached(2, 4), 9);
        Check.due("no request", m.request(2), 0);
    }
}
