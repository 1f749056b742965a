/** "An object is used for at most 512 calls after it has been made": whatever they are, each answer holds. */
final class LastCallTest {
    private static final int LOAD = Rig.LOAD, STORE = Rig.STORE, SWAP = Rig.SWAP, ADD = Rig.ADD, SET = Rig.SET,
        BRANCH = Rig.BRANCH;
    /** Every call of the face, with numbers that are fine. */
    private static final Object[][] CALLS = {
        {"code", 2, ADD, 0, 1}, {"poke", 6, 66}, {"step", 1}, {"drain", 1}, {"grant", 1}, {"fill", 1},
        {"register", 1, 1}, {"place", 1}, {"buffered", 1}, {"storeAddress", 1, 0}, {"storeValue", 1, 0},
        {"line", 1, 1}, {"cached", 1, 3}, {"request", 1}, {"memory", 3}, {"word", 3},
        {"events"}, {"event", 0}, {"eventValue", 0}};
    /** Every call that can be wrong, wrong. */
    private static final Object[][] WRONG = {
        {"code", 3, 0, 0, 0}, {"code", 0, 8, 0, 0}, {"code", 0, LOAD, 4, 0}, {"poke", 8, 1}, {"step", -1},
        {"drain", 3}, {"grant", -1}, {"fill", 3}, {"register", 0, 4}, {"place", 3}, {"buffered", -1},
        {"storeAddress", 0, 4}, {"storeValue", 0, -1}, {"line", 0, 2}, {"cached", 0, 8}, {"cached", 2, 1},
        {"request", 3}, {"memory", -1}, {"word", 8}, {"event", -1}, {"eventValue", 512}};
    /** What is called in turn, again and again: one core with many events, one that stores, all over one word. */
    private static final Object[][][] TURNS = {
        {{"step", 2}, {"step", 2}, {"step", 2}, {"grant", 2}, {"fill", 2}},
        {{"step", 0}, {"drain", 0}, {"grant", 0}, {"fill", 0}},
        {{"step", 0}, {"step", 1}, {"drain", 1}, {"step", 2}, {"grant", 0}, {"drain", 0}, {"grant", 1},
            {"fill", 0}, {"grant", 2}, {"fill", 1}, {"drain", 2}, {"fill", 2}}};

    public static void main(String[] args) {
        for (Object[] last : CALLS) {
            for (Object[] again : CALLS) {
                run(new Object[][] {again}, last);
            }
            for (Object[] again : WRONG) {
                run(new Object[][] {again}, last);
            }
            for (Object[][] turn : TURNS) {
                run(turn, last);
            }
        }
        newestAndOldestEvent();
        Check.end();
    }

    private static void run(Object[][] turn, Object[] last) {
        String run = turn[0][0] + " again and again, and " + last[0];
        Pair pair = begun();
        repeat(pair, run, turn);
        call(pair, run, last);
        Check.due("the calls of an object", pair.calls(), Pair.MOST_CALLS);
    }

    /** The log at its end, as the calls of all three cores have filled it. */
    private static void newestAndOldestEvent() {
        for (Object[][] turn : TURNS) {
            for (int back = 0; back <= 42; back++) {
                for (String name : new String[] {"event", "eventValue"}) {
                    Pair pair = begun();
                    repeat(pair, name + " at the end", turn);
                    call(pair, name + " at the end", new Object[] {name, pair.ask("events", 0) - back});
                }
            }
        }
    }

    /** Until one call is left. */
    private static void repeat(Pair pair, String run, Object[][] turn) {
        for (int i = 0; pair.calls() < Pair.MOST_CALLS - 1; i++) {
            call(pair, run, turn[i % turn.length]);
        }
    }

    /** Three cores whose programs go back to the beginning, all of them over the words 1 and 3. */
    private static Pair begun() {
        Pair pair = new Pair(2);
        Object[][] first = {
            {"poke", 3, 30}, {"poke", 1, 10},
            {"code", 0, SET, 0, 3}, {"code", 0, LOAD, 1, 0}, {"code", 0, ADD, 1, 0}, {"code", 0, STORE, 0, 1},
            {"code", 0, BRANCH, 0, 1},
            {"code", 1, SET, 0, 3}, {"code", 1, SET, 2, 1}, {"code", 1, STORE, 2, 1}, {"code", 1, ADD, 1, 2},
            {"code", 1, LOAD, 3, 0}, {"code", 1, BRANCH, 0, 2},
            {"code", 2, SET, 0, 3}, {"code", 2, SWAP, 0, 0}, {"code", 2, LOAD, 3, 0}, {"code", 2, BRANCH, 0, 1},
            {"step", 0}, {"step", 0}, {"step", 1}, {"step", 1}, {"step", 1}, {"step", 2}, {"step", 2},
            {"grant", 0}, {"fill", 0}, {"step", 0}, {"drain", 1}, {"grant", 1}};
        for (Object[] call : first) {
            call(pair, "the beginning", call);
        }
        return pair;
    }

    private static void call(Pair pair, String run, Object[] call) {
        pair.agrees(run, (String) call[0], number(call, 1), number(call, 2), number(call, 3), number(call, 4));
    }

    private static int number(Object[] call, int i) {
        return i < call.length ? (Integer) call[i] : 0;
    }
}
