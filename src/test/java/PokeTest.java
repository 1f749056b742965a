/** Promise 3: poke. */
final class PokeTest {
    private static final Class<IllegalStateException> STATE = IllegalStateException.class;

    public static void main(String[] args) {
        sets();
        wrongAddresses();
        whileACoreHasIt();
        whileInFlight();
        Check.end();
    }

    private static void sets() {
        BufferedCores m = new BufferedCores(1);
        for (int x = 0; x < 8; x++) {
            m.poke(x, 100 - x);
        }
        m.poke(5, Integer.MIN_VALUE);
        for (int x = 0; x < 8; x++) {
            int want = x == 5 ? Integer.MIN_VALUE : 100 - x;
            Check.due("memory " + x, m.memory(x), want);
            Check.due("word " + x, m.word(x), want);
        }
    }

    private static void wrongAddresses() {
        BufferedCores m = new BufferedCores(1);
        for (int x : new int[] {-1, 8, Integer.MIN_VALUE, Integer.MAX_VALUE}) {
            Check.throwing("poke at " + x, IllegalArgumentException.class, () -> m.poke(x, 1));
        }
    }

    private static void whileACoreHasIt() {
        for (int core = 0; core < 3; core++) {
            BufferedCores exclusive = new BufferedCores(1);
            Rig.read(exclusive, core, 3);
            Check.throwing("poke of a word in E", STATE, () -> exclusive.poke(3, 1));
            Check.fine("poke of the line's other word", () -> exclusive.poke(1, 1));

            BufferedCores modified = new BufferedCores(1);
            Rig.write(modified, core, 4, 9);
            Check.throwing("poke of a word in M", STATE, () -> modified.poke(4, 1));
            Check.due("word", modified.word(4), 9);
            Check.due("memory", modified.memory(4), 0);

            BufferedCores shared = new BufferedCores(1);
            Rig.read(shared, core, 2);
            Rig.read(shared, (core + 1) % 3, 2);
            Check.throwing("poke of a word in S", STATE, () -> shared.poke(2, 1));
        }
        BufferedCores left = new BufferedCores(1);
        Rig.read(left, 0, 0);
        Rig.askToRead(left, 0, 2);
        left.grant(0);
        Check.fine("poke of a word that has left its line", () -> left.poke(0, 6));
        Check.due("memory", left.memory(0), 6);
    }

    private static void whileInFlight() {
        for (int core = 0; core < 3; core++) {
            int asker = core;
            BufferedCores m = new BufferedCores(1);
            Rig.askToRead(m, asker, 6);
            Check.fine("poke under a waiting request", () -> m.poke(6, 8));
            m.grant(asker);
            Check.throwing("poke under a request in flight", STATE, () -> m.poke(6, 1));
            Check.fine("poke beside a request in flight", () -> m.poke(4, 1));
            m.fill(asker);
            m.step(asker);
            Check.due("the word that was poked", m.register(asker, 1), 8);
        }
    }
}
