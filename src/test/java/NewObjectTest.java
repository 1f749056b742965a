/** Promise 1: what a new object is like, and how many stores its buffers take. */
final class NewObjectTest {
    public static void main(String[] args) {
        isEmpty();
        takesStores(Integer.MIN_VALUE, 1);
        takesStores(-1, 1);
        takesStores(0, 1);
        takesStores(1, 1);
        takesStores(2, 2);
        takesStores(3, 3);
        takesStores(4, 4);
        takesStores(5, 4);
        takesStores(Integer.MAX_VALUE, 4);
        Check.end();
    }

    private static void isEmpty() {
        BufferedCores m = new BufferedCores(2);
        for (int core = 0; core < 3; core++) {
            Check.due("step", m.step(core), BufferedCores.ENDED);
            Check.due("drain", m.drain(core), BufferedCores.NOTHING);
            Check.due("grant", m.grant(core), BufferedCores.NOTHING);
            Check.due("fill", m.fill(core), BufferedCores.NOTHING);
            Check.due("place", m.place(core), 0);
            Check.due("buffered", m.buffered(core), 0);
            Check.due("request", m.request(core), 0);
            Check.due("line 0", m.line(core, 0), 0);
            Check.due("line 1", m.line(core, 1), 0);
            for (int r = 0; r < 4; r++) {
                Check.due("register", m.register(core, r), 0);
            }
            Check.due("first instruction", m.code(core, Rig.HALT, 0, 0), 1);
        }
        for (int x = 0; x < 8; x++) {
            Check.due("memory", m.memory(x), 0);
            Check.due("word", m.word(x), 0);
        }
        Check.due("events", m.events(), 0);
    }

    private static void takesStores(int stores, int k) {
        for (int core = 0; core < 3; core++) {
            BufferedCores m = new BufferedCores(stores);
            for (int i = 0; i < k; i++) {
                Check.due("store " + i + " of K " + stores, Rig.run(m, core, Rig.STORE, 0, 0), BufferedCores.DONE);
            }
            Check.due("one store too many for K " + stores, Rig.run(m, core, Rig.STORE, 0, 0), BufferedCores.STOPPED);
            Check.due("buffered for K " + stores, m.buffered(core), k);
        }
    }
}
