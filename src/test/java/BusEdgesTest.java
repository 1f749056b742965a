import java.util.NoSuchElementException;

/** Terms: the edges of asking, draining, granting and filling, sentence by sentence. */
final class BusEdgesTest {
    private static final int STOPPED = BufferedCores.STOPPED, DONE = BufferedCores.DONE;
    private static final int NOTHING = BufferedCores.NOTHING, BUSY = BufferedCores.BUSY;

    public static void main(String[] args) {
        fromOutside();
        askWithoutARequest();
        askWithAWaitingRequest();
        askWithARequestInFlight();
        stopped();
        drainTheOldest();
        drainOwned();
        drainAsks();
        busy();
        busyForOwnersAndReaders();
        notBusy();
        evictsModified();
        evictsOthers();
        keepsItsOwnLine();
        takesTheWord();
        othersForReading();
        othersForOwning();
        othersWithAnotherAddress();
        inFlight();
        fillsItsLine();
        fillsForOwning();
        fillsForReading();
        fillsWhenTheOthersHaveLeft();
        noRequestAnyMore();
        Check.end();
    }

    private static void fromOutside() {
        Check.sentence("Who steps, which buffer drains and who gets the bus is decided from outside.");
        BufferedCores m = new BufferedCores(4);
        Rig.write(m, 0, 1, 10);
        Rig.buffer(m, 0, 1, 11);
        Rig.askToRead(m, 1, 4);
        Rig.askToRead(m, 2, 4);
        m.grant(2);
        Rig.run(m, 0, Rig.SET, 2, 5);
        m.step(1);
        m.step(2);
        Check.due("an owned store stays until it is drained", m.buffered(0), 1);
        Check.due("a request waits until it is granted", m.request(1), Rig.request(Rig.READING, 4));
        Check.due("a request flies until it is filled", m.request(2), Rig.request(Rig.READING + Rig.FLYING, 4));
        Check.due("drain", m.drain(0), DONE);
        Check.due("fill", m.fill(2), DONE);
        Check.due("the other request waits still", m.request(1), Rig.request(Rig.READING, 4));
        Check.due("place", m.place(2), 1);
    }

    private static void askWithoutARequest() {
        Check.sentence("TO ASK: when the core has no request, it gets one, waiting.");
        BufferedCores m = new BufferedCores(1);
        Check.due("LOAD", Rig.run(m, 0, Rig.LOAD, 1, 0), STOPPED);
        Check.due("of a LOAD", m.request(0), Rig.request(Rig.READING, 0));
        Check.due("SWAP", Rig.run(m, 1, Rig.SWAP, 0, 1), STOPPED);
        Check.due("of a SWAP", m.request(1), Rig.request(Rig.OWNING, 0));
        Rig.buffer(m, 2, 7, 1);
        Check.due("drain", m.drain(2), STOPPED);
        Check.due("of a drain", m.request(2), Rig.request(Rig.OWNING, 7));
    }

    private static void askWithAWaitingRequest() {
        Check.sentence("In any case the core is stopped.");
        BufferedCores m = new BufferedCores(1);
        Rig.buffer(m, 0, 7, 1);
        Rig.askToRead(m, 0, 4);
        Check.idle("the same LOAD", m, () -> m.step(0), STOPPED);
        Check.idle("a drain beside it", m, () -> m.drain(0), STOPPED);
        Check.due("the request", m.request(0), Rig.request(Rig.READING, 4));
        BufferedCores other = new BufferedCores(1);
        Rig.askToOwn(other, 0, 7, 1);
        Rig.run(other, 0, Rig.SET, 0, 5);
        other.code(0, Rig.LOAD, 1, 0);
        Check.idle("the same drain", other, () -> other.drain(0), STOPPED);
        Check.idle("a LOAD beside it", other, () -> other.step(0), STOPPED);
        Check.due("the request", other.request(0), Rig.request(Rig.OWNING, 7));
    }

    private static void askWithARequestInFlight() {
        Check.sentence("In any case the core is stopped.");
        BufferedCores m = new BufferedCores(1);
        Rig.buffer(m, 0, 7, 1);
        Rig.askToRead(m, 0, 5);
        m.grant(0);
        Check.idle("the same LOAD", m, () -> m.step(0), STOPPED);
        Check.idle("a drain beside it", m, () -> m.drain(0), STOPPED);
        m.fill(0);
        Check.due("LOAD", m.step(0), DONE);
        Check.due("drain", m.drain(0), STOPPED);
        Check.due("the next request", m.request(0), Rig.request(Rig.OWNING, 7));
    }

    private static void stopped() {
        Check.sentence("To be STOPPED: nothing is done, nothing else changes (but for a request that it gets).");
        BufferedCores m = new BufferedCores(2);
        Rig.write(m, 0, 3, 30);
        Rig.buffer(m, 0, 5, 50);
        m.code(0, Rig.SET, 0, 1);
        m.code(0, Rig.LOAD, 2, 0);
        m.step(0);
        String before = Rig.view(m);
        Check.due("LOAD", m.step(0), STOPPED);
        Check.due("the state but for the request", Rig.view(m), before.replaceFirst("request 0", "request 9"));
        BufferedCores drained = new BufferedCores(2);
        Rig.write(drained, 0, 3, 30);
        Rig.buffer(drained, 0, 5, 50);
        before = Rig.view(drained);
        Check.due("drain", drained.drain(0), STOPPED);
        Check.due("the state but for the request", Rig.view(drained), before.replaceFirst("request 0", "request 42"));
    }

    private static void drainTheOldest() {
        Check.sentence("DRAINING a core: the oldest store of its buffer, to x");
        BufferedCores m = new BufferedCores(4);
        for (int i = 0; i < 4; i++) {
            Rig.buffer(m, 1, 6, 60 + i);
        }
        Check.due("drain", m.drain(1), STOPPED);
        Rig.serve(m, 1);
        for (int i = 0; i < 4; i++) {
            Check.due("drain " + i, m.drain(1), DONE);
            Check.due("what it wrote", m.cached(1, 6), 60 + i);
            Check.due("how many are left", m.buffered(1), 3 - i);
            for (int j = 0; j < 3 - i; j++) {
                Check.due("store " + j, m.storeValue(1, j), 61 + i + j);
            }
        }
        Check.due("drain", m.drain(1), NOTHING);
    }

    private static void drainOwned() {
        Check.sentence("if the core owns x, the line gets its value and is M, and the store is gone");
        for (int core = 0; core < 3; core++) {
            BufferedCores m = new BufferedCores(1);
            m.poke(0, 5);
            Rig.read(m, core, 0);
            Rig.buffer(m, core, 0, 5);
            Check.due("drain of what the line has already", m.drain(core), DONE);
            Check.due("line", m.line(core, 0), Rig.line(Rig.M, 0));
            Check.due("buffered", m.buffered(core), 0);
            Rig.buffer(m, core, 0, 6);
            Check.due("drain", m.drain(core), DONE);
            Check.due("value", m.cached(core, 0), 6);
            Check.due("memory", m.memory(0), 5);
            Check.due("no request", m.request(core), 0);
        }
    }

    private static void drainAsks() {
        Check.sentence("Otherwise the core asks for owning x.");
        BufferedCores m = new BufferedCores(2);
        Rig.write(m, 0, 2, 20);
        Rig.buffer(m, 0, 6, 60);
        Rig.run(m, 0, Rig.SET, 0, 2);
        Rig.run(m, 0, Rig.STORE, 0, 1);
        Check.due("the oldest is not owned, the next is", m.drain(0), STOPPED);
        Check.due("request", m.request(0), Rig.request(Rig.OWNING, 6));
        Check.due("buffered", m.buffered(0), 2);
        Check.due("the line stays", m.line(0, 0), Rig.line(Rig.M, 2));
    }

    private static void busy() {
        Check.sentence("it is BUSY when a request for x of another core is in flight");
        for (int core = 0; core < 3; core++) {
            for (int other = 0; other < 3; other++) {
                for (int x = 0; x < 8 && other != core; x++) {
                    BufferedCores m = new BufferedCores(1);
                    int asker = core;
                    Rig.write(m, core, (x + 2) % 8, 1);
                    Rig.askToRead(m, core, x);
                    Rig.askToRead(m, other, x);
                    m.grant(other);
                    Check.idle("grant", m, () -> m.grant(asker), BUSY);
                    m.fill(other);
                    Check.due("grant behind the fill", m.grant(core), DONE);
                }
            }
        }
    }

    private static void busyForOwnersAndReaders() {
        Check.sentence("it is BUSY when a request for x of another core is in flight");
        BufferedCores m = new BufferedCores(1);
        Rig.askToRead(m, 0, 1);
        Rig.askToOwn(m, 1, 1, 5);
        Rig.askToOwn(m, 2, 1, 6);
        m.grant(0);
        Check.due("owning, while reading is in flight", m.grant(1), BUSY);
        m.fill(0);
        m.step(0);
        m.grant(1);
        Check.due("owning, while owning is in flight", m.grant(2), BUSY);
        m.fill(1);
        Rig.drop(m, 0, 1);
        Rig.askToRead(m, 0, 1);
        m.grant(2);
        Check.due("reading, while owning is in flight", m.grant(0), BUSY);
        Check.due("the same core's request", m.grant(2), NOTHING);
    }

    private static void notBusy() {
        Check.sentence("it is BUSY when a request for x of another core is in flight");
        for (int y = 0; y < 8; y++) {
            BufferedCores m = new BufferedCores(1);
            Rig.askToOwn(m, 0, 3, 1);
            m.grant(0);
            Rig.askToRead(m, 1, y);
            Check.due("grant for " + y + " beside 3", m.grant(1), y == 3 ? BUSY : DONE);
        }
        BufferedCores m = new BufferedCores(1);
        Rig.askToRead(m, 0, 3);
        Rig.askToRead(m, 1, 3);
        Check.due("grant beside a waiting request", m.grant(1), DONE);
        BufferedCores three = new BufferedCores(1);
        for (int core = 0; core < 3; core++) {
            Rig.askToRead(three, core, 2 * core);
            Check.due("three in flight at once", three.grant(core), DONE);
        }
    }

    private static void evictsModified() {
        Check.sentence("the line for x of the core, if it is M with another address, is written to memory");
        for (int x = 0; x < 8; x++) {
            for (int y = (x + 2) % 8; y != x; y = (y + 2) % 8) {
                BufferedCores m = new BufferedCores(1);
                Rig.write(m, 1, x, 90 + x);
                Rig.askToOwn(m, 1, y, 1);
                Check.due("memory, before", m.memory(x), 0);
                m.grant(1);
                Check.due("memory " + x, m.memory(x), 90 + x);
                Check.due("memory " + y, m.memory(y), 0);
                Check.due("line", m.line(1, x % 2), 0);
                Check.due("request", m.request(1), Rig.request(Rig.OWNING + Rig.FLYING, y));
            }
        }
        BufferedCores m = new BufferedCores(1);
        Rig.write(m, 0, 2, 20);
        Rig.write(m, 0, 3, 30);
        Rig.askToRead(m, 0, 1);
        m.grant(0);
        Check.due("the other line stays", m.line(0, 0), Rig.line(Rig.M, 2));
        Check.due("and is not written", m.memory(2), 0);
    }

    private static void evictsOthers() {
        Check.sentence("if it has another address, it becomes I");
        BufferedCores m = new BufferedCores(1);
        m.poke(4, 40);
        Rig.read(m, 0, 4);
        Rig.askToRead(m, 0, 6);
        m.grant(0);
        Check.due("from E", m.line(0, 0), 0);
        Check.throwing("cached", NoSuchElementException.class, () -> m.cached(0, 4));
        Check.due("memory", m.memory(4), 40);
        m.fill(0);
        Rig.read(m, 1, 4);
        Rig.read(m, 2, 4);
        Rig.askToRead(m, 1, 0);
        m.grant(1);
        Check.due("from S", m.line(1, 0), 0);
        Check.due("another core's S stays S", m.line(2, 0), Rig.line(Rig.S, 4));
        Check.due("the other line", m.line(1, 1), 0);
    }

    private static void keepsItsOwnLine() {
        Check.sentence("if it has another address, it becomes I");
        for (int x = 0; x < 8; x++) {
            BufferedCores m = new BufferedCores(1);
            m.poke(x, 9);
            Rig.read(m, 0, x);
            Rig.read(m, 1, x);
            Rig.askToOwn(m, 0, x, 10);
            m.grant(0);
            Check.due("its line has that address: it stays", m.line(0, x % 2), Rig.line(Rig.S, x));
            Check.due("value", m.cached(0, x), 9);
            Check.due("it does not own it yet", m.drain(0), STOPPED);
            m.fill(0);
            Check.due("line", m.line(0, x % 2), Rig.line(Rig.E, x));
            Check.due("drain", m.drain(0), DONE);
        }
    }

    private static void takesTheWord() {
        Check.sentence("The request's value is the word at x.");
        for (int owner = 0; owner < 3; owner++) {
            int reader = (owner + 1) % 3;
            BufferedCores m = new BufferedCores(1);
            m.poke(5, 1);
            Rig.write(m, owner, 5, 2);
            Rig.askToRead(m, reader, 5);
            Rig.serve(m, reader);
            Check.due("of a line in M", m.cached(reader, 5), 2);
        }
        BufferedCores m = new BufferedCores(1);
        m.poke(5, 3);
        Rig.write(m, 0, 7, 4);
        Rig.askToRead(m, 1, 5);
        Rig.serve(m, 1);
        Check.due("of memory, a line in M has another address", m.cached(1, 5), 3);
        BufferedCores own = new BufferedCores(1);
        Rig.write(own, 0, 5, 6);
        Rig.drop(own, 0, 5);
        Rig.askToRead(own, 0, 5);
        Rig.serve(own, 0);
        Check.due("of memory, where it was written back", own.cached(0, 5), 6);
    }

    private static void othersForReading() {
        Check.sentence("its line, if it is M, is written to memory; it becomes S if the request is for reading, I otherwise");
        for (int asker = 0; asker < 3; asker++) {
            int one = (asker + 1) % 3;
            int two = (asker + 2) % 3;
            BufferedCores m = new BufferedCores(1);
            Rig.write(m, one, 3, 33);
            Rig.askToRead(m, asker, 3);
            m.grant(asker);
            Check.due("from M", m.line(one, 1), Rig.line(Rig.S, 3));
            Check.due("memory", m.memory(3), 33);
            m.fill(asker);
            Rig.askToRead(m, two, 3);
            m.grant(two);
            Check.due("from S", m.line(one, 1), Rig.line(Rig.S, 3));
            Check.due("from S", m.line(asker, 1), Rig.line(Rig.S, 3));
            BufferedCores clean = new BufferedCores(1);
            clean.poke(3, 34);
            Rig.read(clean, two, 3);
            Rig.askToRead(clean, asker, 3);
            clean.grant(asker);
            Check.due("from E", clean.line(two, 1), Rig.line(Rig.S, 3));
            Check.due("value", clean.cached(two, 3), 34);
        }
    }

    private static void othersForOwning() {
        Check.sentence("its line, if it is M, is written to memory; it becomes S if the request is for reading, I otherwise");
        for (int asker = 0; asker < 3; asker++) {
            int one = (asker + 1) % 3;
            int two = (asker + 2) % 3;
            BufferedCores m = new BufferedCores(1);
            Rig.write(m, one, 4, 44);
            Rig.askToOwn(m, asker, 4, 1);
            m.grant(asker);
            Check.due("from M", m.line(one, 0), 0);
            Check.due("memory", m.memory(4), 44);
            BufferedCores shared = new BufferedCores(1);
            Rig.read(shared, one, 4);
            Rig.read(shared, two, 4);
            Rig.askToOwn(shared, asker, 4, 1);
            shared.grant(asker);
            Check.due("from S", shared.line(one, 0), 0);
            Check.due("from S", shared.line(two, 0), 0);
            BufferedCores exclusive = new BufferedCores(1);
            Rig.read(exclusive, two, 4);
            Rig.askToOwn(exclusive, asker, 4, 1);
            exclusive.grant(asker);
            Check.due("from E", exclusive.line(two, 0), 0);
        }
    }

    private static void othersWithAnotherAddress() {
        Check.sentence("Then each other core that has x");
        for (int x = 0; x < 8; x++) {
            BufferedCores m = new BufferedCores(1);
            Rig.write(m, 0, 4, 44);
            Rig.write(m, 0, 5, 55);
            Rig.askToOwn(m, 1, x, 1);
            m.grant(1);
            Check.due("line 0 at " + x, m.line(0, 0), x == 4 ? 0 : Rig.line(Rig.M, 4));
            Check.due("line 1 at " + x, m.line(0, 1), x == 5 ? 0 : Rig.line(Rig.M, 5));
            Check.due("memory 4 at " + x, m.memory(4), x == 4 ? 44 : 0);
            Check.due("memory 5 at " + x, m.memory(5), x == 5 ? 55 : 0);
        }
    }

    private static void inFlight() {
        Check.sentence("The request is in flight.");
        BufferedCores m = new BufferedCores(1);
        Rig.askToRead(m, 0, 0);
        m.grant(0);
        Check.due("request", m.request(0), Rig.request(Rig.READING + Rig.FLYING, 0));
        Check.due("it has not the word yet", m.line(0, 0), 0);
        Check.idle("grant again", m, () -> m.grant(0), NOTHING);
    }

    private static void fillsItsLine() {
        Check.sentence("its line for x gets the address x and the request's value");
        for (int x = 0; x < 8; x++) {
            BufferedCores m = new BufferedCores(1);
            m.poke(x, -x - 1);
            Rig.askToRead(m, 2, x);
            m.grant(2);
            Check.due("fill", m.fill(2), DONE);
            Check.due("line", m.line(2, x % 2), Rig.line(Rig.E, x));
            Check.due("the other line", m.line(2, 1 - x % 2), 0);
            Check.due("value", m.cached(2, x), -x - 1);
        }
    }

    private static void fillsForOwning() {
        Check.sentence("its state is E if the request is for owning or no other core has x, otherwise S");
        for (int core = 0; core < 3; core++) {
            BufferedCores m = new BufferedCores(1);
            Rig.read(m, 0, 2);
            Rig.read(m, 1, 2);
            Rig.read(m, 2, 2);
            Rig.run(m, core, Rig.SWAP, 0, 1);
            Rig.serve(m, core);
            Check.due("line", m.line(core, 0), Rig.line(Rig.E, 2));
        }
    }

    private static void fillsForReading() {
        Check.sentence("its state is E if the request is for owning or no other core has x, otherwise S");
        for (int core = 0; core < 3; core++) {
            for (int other = 0; other < 3; other++) {
                BufferedCores m = new BufferedCores(1);
                Rig.read(m, other, 2);
                Rig.read(m, core, 2);
                Check.due("line", m.line(core, 0), Rig.line(other == core ? Rig.E : Rig.S, 2));
            }
        }
        BufferedCores m = new BufferedCores(1);
        Rig.read(m, 0, 2);
        Rig.read(m, 1, 4);
        Check.due("another core has another address", m.line(1, 0), Rig.line(Rig.E, 4));
        BufferedCores waiting = new BufferedCores(1);
        Rig.askToRead(waiting, 0, 2);
        Rig.read(waiting, 1, 2);
        Check.due("another core only waits for it", waiting.line(1, 0), Rig.line(Rig.E, 2));
    }

    private static void fillsWhenTheOthersHaveLeft() {
        Check.sentence("its state is E if the request is for owning or no other core has x, otherwise S");
        BufferedCores m = new BufferedCores(1);
        Rig.read(m, 0, 2);
        Rig.read(m, 1, 2);
        Rig.askToRead(m, 2, 2);
        m.grant(2);
        Rig.drop(m, 0, 2);
        Rig.askToRead(m, 1, 6);
        m.grant(1);
        Check.due("fill", m.fill(2), DONE);
        Check.due("line", m.line(2, 0), Rig.line(Rig.E, 2));
        BufferedCores one = new BufferedCores(1);
        Rig.read(one, 0, 2);
        Rig.read(one, 1, 2);
        Rig.askToRead(one, 2, 2);
        one.grant(2);
        Rig.drop(one, 0, 2);
        one.fill(2);
        Check.due("one has stayed", one.line(2, 0), Rig.line(Rig.S, 2));
    }

    private static void noRequestAnyMore() {
        Check.sentence("the core has no request any more");
        BufferedCores m = new BufferedCores(1);
        Rig.askToRead(m, 1, 7);
        Rig.serve(m, 1);
        Check.due("request", m.request(1), 0);
        Check.idle("grant", m, () -> m.grant(1), NOTHING);
        Check.idle("fill", m, () -> m.fill(1), NOTHING);
        m.step(1);
        Rig.askToRead(m, 1, 0);
        Check.due("the next one waits", m.request(1), Rig.request(Rig.READING, 0));
        Check.idle("fill of the next one", m, () -> m.fill(1), NOTHING);
    }
}
