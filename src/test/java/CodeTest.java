/** Promise 2: code. */
final class CodeTest {
    private static final Class<IllegalArgumentException> ARGUMENT = IllegalArgumentException.class;

    public static void main(String[] args) {
        counts();
        operations();
        registers();
        unusedNumbers();
        full();
        appendsWhileRunning();
        Check.end();
    }

    private static void counts() {
        BufferedCores m = new BufferedCores(1);
        for (int i = 1; i <= 16; i++) {
            Check.due("code " + i, m.code(1, Rig.ADD, 0, 1), i);
        }
        Check.due("another core's first", m.code(0, Rig.ADD, 0, 1), 1);
        Check.due("the last core's first", m.code(2, Rig.ADD, 0, 1), 1);
    }

    private static void operations() {
        BufferedCores m = new BufferedCores(1);
        refused(m, -1, 0, 0);
        refused(m, 8, 0, 0);
        refused(m, Integer.MIN_VALUE, 0, 0);
        refused(m, Integer.MAX_VALUE, 0, 0);
        for (int op = 0; op < 8; op++) {
            taken(m, op, 0, 0);
            taken(m, op, 3, 3);
        }
    }

    private static void registers() {
        BufferedCores m = new BufferedCores(1);
        int[] wrong = {-1, 4, Integer.MIN_VALUE, Integer.MAX_VALUE};
        for (int number : wrong) {
            for (int op : new int[] {Rig.LOAD, Rig.STORE, Rig.SWAP, Rig.ADD}) {
                refused(m, op, number, 0);
                refused(m, op, 0, number);
            }
            refused(m, Rig.SET, number, 0);
            refused(m, Rig.BRANCH, number, 0);
        }
        refused(m, Rig.BRANCH, 0, -1);
        refused(m, Rig.BRANCH, 0, 16);
        refused(m, Rig.BRANCH, 0, Integer.MIN_VALUE);
        refused(m, Rig.BRANCH, 0, Integer.MAX_VALUE);
        taken(m, Rig.BRANCH, 3, 15);
        Check.due("refused ones are not counted", m.code(0, Rig.FENCE, 0, 0), 2);
    }

    private static void unusedNumbers() {
        BufferedCores m = new BufferedCores(1);
        taken(m, Rig.FENCE, -1, Integer.MAX_VALUE);
        taken(m, Rig.FENCE, 4, -1);
        taken(m, Rig.HALT, Integer.MIN_VALUE, 16);
        taken(m, Rig.HALT, 4, 4);
        taken(m, Rig.SET, 3, Integer.MIN_VALUE);
        taken(m, Rig.SET, 0, 4);
    }

    private static void full() {
        BufferedCores m = new BufferedCores(1);
        for (int i = 0; i < 16; i++) {
            m.code(0, Rig.SET, 0, i);
        }
        Check.throwing("the 17th", IllegalStateException.class, () -> m.code(0, Rig.SET, 0, 0));
        Check.throwing("a wrong 17th", ARGUMENT, () -> m.code(0, 8, 0, 0));
        Check.throwing("a wrong core", IndexOutOfBoundsException.class, () -> m.code(3, 8, 0, 0));
        Check.throwing("a wrong core", IndexOutOfBoundsException.class, () -> m.code(-1, 0, 9, 0));
        for (int i = 0; i < 16; i++) {
            Check.due("step", m.step(0), BufferedCores.DONE);
            Check.due("register 0", m.register(0, 0), i);
        }
        Check.due("behind the last", m.step(0), BufferedCores.ENDED);
        Check.due("place behind the last", m.place(0), 16);
    }

    private static void appendsWhileRunning() {
        BufferedCores m = new BufferedCores(1);
        Check.due("no instruction yet", m.step(2), BufferedCores.ENDED);
        m.code(2, Rig.SET, 2, 77);
        Check.due("an instruction now", m.step(2), BufferedCores.DONE);
        Check.due("register", m.register(2, 2), 77);
        Check.due("no more", m.step(2), BufferedCores.ENDED);
    }

    private static void refused(BufferedCores m, int op, int a, int b) {
        Check.throwing("code(0, " + op + ", " + a + ", " + b + ")", ARGUMENT, () -> m.code(0, op, a, b));
    }

    private static void taken(BufferedCores m, int op, int a, int b) {
        Check.fine("code(0, " + op + ", " + a + ", " + b + ")", () -> m.code(0, op, a, b));
    }
}
