/** Promises 6 and 7: grant and fill. */
final class BusTest {
    private static final int DONE = BufferedCores.DONE, NOTHING = BufferedCores.NOTHING, BUSY = BufferedCores.BUSY;

    public static void main(String[] args) {
        wrongCores();
        nothing();
        readAlone();
        readOfModified();
        readOfExclusive();
        readersLeaveBeforeFill();
        ownTakesAway();
        ownKeepsOwnShared();
        busy();
        notBusyForAnotherWord();
        evictsModified();
        evictsClean();
        leavesOtherWordsAlone();
        Check.end();
    }

    private static void wrongCores() {
        BufferedCores m = new BufferedCores(1);
        for (int core : new int[] {-1, 3, Integer.MIN_VALUE, Integer.MAX_VALUE}) {
            Check.throwing("grant of core " + core, IndexOutOfBoundsException.class, () -> m.grant(core));
            Check.throwing("fill of core " + core, IndexOutOfBoundsException.class, () -> m.fill(core));
        }
    }

    private static void nothing() {
        BufferedCores m = new BufferedCores(1);
        Check.due("grant without a request", m.grant(0), NOTHING);
        Check.due("fill without a request", m.fill(0), NOTHING);
        Rig.askToRead(m, 0, 1);
        Check.due("fill of a waiting request", m.fill(0), NOTHING);
        Check.due("request", m.request(0), Rig.request(Rig.READING, 1));
        Check.due("grant", m.grant(0), DONE);
        Check.due("grant in flight", m.grant(0), NOTHING);
        Check.due("fill", m.fill(0), DONE);
        Check.due("fill again", m.fill(0), NOTHING);
        Check.due("grant behind it", m.grant(0), NOTHING);
        Check.due("no request", m.request(0), 0);
    }

    private static void readAlone() {
        BufferedCores m = new BufferedCores(1);
        m.poke(6, 61);
        Rig.askToRead(m, 2, 6);
        m.grant(2);
        Check.due("line in flight", m.line(2, 0), 0);
        m.fill(2);
        Check.due("line", m.line(2, 0), Rig.line(Rig.E, 6));
        Check.due("cached", m.cached(2, 6), 61);
    }

    private static void readOfModified() {
        BufferedCores m = new BufferedCores(1);
        Rig.write(m, 0, 6, 62);
        Rig.askToRead(m, 1, 6);
        Check.due("grant", m.grant(1), DONE);
        Check.due("the writer's line", m.line(0, 0), Rig.line(Rig.S, 6));
        Check.due("the writer's value", m.cached(0, 6), 62);
        Check.due("memory", m.memory(6), 62);
        m.fill(1);
        Check.due("the reader's line", m.line(1, 0), Rig.line(Rig.S, 6));
        Check.due("the reader's value", m.cached(1, 6), 62);
        Check.due("the writer's line", m.line(0, 0), Rig.line(Rig.S, 6));
    }

    private static void readOfExclusive() {
        BufferedCores m = new BufferedCores(1);
        Rig.read(m, 0, 1);
        Rig.read(m, 1, 1);
        Rig.read(m, 2, 1);
        for (int core = 0; core < 3; core++) {
            Check.due("line", m.line(core, 1), Rig.line(Rig.S, 1));
        }
    }

    private static void readersLeaveBeforeFill() {
        BufferedCores m = new BufferedCores(1);
        Rig.read(m, 0, 1);
        Rig.askToRead(m, 1, 1);
        m.grant(1);
        Rig.askToRead(m, 0, 3);
        m.grant(0);
        Check.due("the first reader's line", m.line(0, 1), 0);
        m.fill(1);
        Check.due("the second reader is alone", m.line(1, 1), Rig.line(Rig.E, 1));
    }

    private static void ownTakesAway() {
        BufferedCores m = new BufferedCores(1);
        Rig.write(m, 0, 5, 51);
        Rig.askToOwn(m, 1, 5, 52);
        m.grant(1);
        Check.due("the first writer's line", m.line(0, 1), 0);
        Check.due("memory", m.memory(5), 51);
        m.fill(1);
        Check.due("the second writer's line", m.line(1, 1), Rig.line(Rig.E, 5));
        Check.due("its value", m.cached(1, 5), 51);
        BufferedCores shared = new BufferedCores(1);
        Rig.read(shared, 0, 5);
        Rig.read(shared, 2, 5);
        Rig.write(shared, 1, 5, 53);
        Check.due("a reader's line", shared.line(0, 1), 0);
        Check.due("a reader's line", shared.line(2, 1), 0);
        Check.due("the writer's line", shared.line(1, 1), Rig.line(Rig.M, 5));
    }

    private static void ownKeepsOwnShared() {
        BufferedCores m = new BufferedCores(1);
        m.poke(0, 3);
        Rig.read(m, 0, 0);
        Rig.read(m, 1, 0);
        Rig.askToOwn(m, 1, 0, 4);
        m.grant(1);
        Check.due("its own line", m.line(1, 0), Rig.line(Rig.S, 0));
        Check.due("its own value", m.cached(1, 0), 3);
        Check.due("the other line", m.line(0, 0), 0);
        m.fill(1);
        Check.due("its own line", m.line(1, 0), Rig.line(Rig.E, 0));
        Check.due("its own value", m.cached(1, 0), 3);
    }

    private static void busy() {
        BufferedCores m = new BufferedCores(1);
        Rig.write(m, 2, 3, 30);
        Rig.askToRead(m, 0, 1);
        Rig.askToOwn(m, 1, 1, 11);
        Rig.askToRead(m, 2, 1);
        m.grant(0);
        Check.due("grant for owning", m.grant(1), BUSY);
        Check.due("grant for reading", m.grant(2), BUSY);
        Check.due("request", m.request(1), Rig.request(Rig.OWNING, 1));
        Check.due("a busy bus evicts nothing", m.line(2, 1), Rig.line(Rig.M, 3));
        Check.due("a busy bus writes nothing", m.memory(3), 0);
        m.fill(0);
        Check.due("grant for owning", m.grant(1), DONE);
        Check.due("grant for reading", m.grant(2), BUSY);
        m.fill(1);
        m.drain(1);
        Check.due("grant for reading", m.grant(2), DONE);
        m.fill(2);
        m.step(2);
        Check.due("register", m.register(2, 1), 11);
    }

    private static void notBusyForAnotherWord() {
        BufferedCores m = new BufferedCores(1);
        Rig.askToRead(m, 0, 1);
        Rig.askToRead(m, 1, 3);
        Rig.askToRead(m, 2, 0);
        Check.due("grant", m.grant(0), DONE);
        Check.due("grant for the line's other word", m.grant(1), DONE);
        Check.due("grant for another word", m.grant(2), DONE);
        BufferedCores waiting = new BufferedCores(1);
        Rig.askToRead(waiting, 0, 1);
        Rig.askToRead(waiting, 1, 1);
        Check.due("a waiting request makes nothing busy", waiting.grant(1), DONE);
    }

    private static void evictsModified() {
        BufferedCores m = new BufferedCores(1);
        Rig.write(m, 0, 7, 70);
        Rig.askToRead(m, 0, 5);
        Check.due("memory while it waits", m.memory(7), 0);
        Check.due("line while it waits", m.line(0, 1), Rig.line(Rig.M, 7));
        m.grant(0);
        Check.due("memory", m.memory(7), 70);
        Check.due("word", m.word(7), 70);
        Check.due("line", m.line(0, 1), 0);
        Check.throwing("cached", java.util.NoSuchElementException.class, () -> m.cached(0, 7));
        m.fill(0);
        Check.due("line", m.line(0, 1), Rig.line(Rig.E, 5));
        Check.due("value", m.cached(0, 5), 0);
    }

    private static void evictsClean() {
        BufferedCores m = new BufferedCores(1);
        m.poke(7, 71);
        Rig.read(m, 0, 7);
        Rig.askToOwn(m, 0, 5, 1);
        m.grant(0);
        Check.due("line", m.line(0, 1), 0);
        Check.due("memory", m.memory(7), 71);
    }

    private static void leavesOtherWordsAlone() {
        BufferedCores m = new BufferedCores(1);
        Rig.write(m, 0, 2, 20);
        Rig.write(m, 0, 3, 30);
        Rig.askToOwn(m, 1, 4, 1);
        m.grant(1);
        m.fill(1);
        Check.due("another core's line with another address", m.line(0, 0), Rig.line(Rig.M, 2));
        Check.due("another core's other line", m.line(0, 1), Rig.line(Rig.M, 3));
        Check.due("memory", m.memory(2), 0);
    }
}
