import java.util.NoSuchElementException;

/** Cores with store buffers and caches of their own, kept coherent over a bus that is driven from outside. */
public final class BufferedCores {
    public static final int STOPPED = 0, DONE = 1, ENDED = 2, NOTHING = 3, BUSY = 4;

    private static final int CORES = 3, WORDS = 8, REGISTERS = 4, LINES = 2;
    private static final int MOST_INSTRUCTIONS = 16, MOST_STORES = 4, LOGGED = 40;

    private static final int LOAD = 0, STORE = 1, FENCE = 2, SWAP = 3, ADD = 4, SET = 5, BRANCH = 6, HALT = 7;

    private static final int INVALID = 0, SHARED = 1, EXCLUSIVE = 2, MODIFIED = 3;

    private static final int NO_REQUEST = 0, READING = 1, OWNING = 2;

    private static final int LOADED = 0, DRAINED = 1, SWAPPED = 2;

    private final int[] words;
    private final Core[] cores;
    private final Log log;

    public BufferedCores(int stores) {
        int most = Math.max(1, Math.min(MOST_STORES, stores));
        words = new int[WORDS];
        cores = new Core[CORES];
        for (int i = 0; i < CORES; i++) {
            cores[i] = new Core(i, most);
        }
        log = new Log();
    }

    public int code(int core, int op, int a, int b)
            throws IndexOutOfBoundsException, IllegalArgumentException, IllegalStateException {
        Program program = coreAt(core).program;
        if (!isInstruction(op, a, b)) {
            throw new IllegalArgumentException("no such instruction");
        }
        if (program.length == MOST_INSTRUCTIONS) {
            throw new IllegalStateException("the program is full");
        }
        program.append(op, a, b);
        return program.length;
    }

    public void poke(int x, int v) throws IllegalArgumentException, IllegalStateException {
        requireAddress(x);
        if (isInUse(x)) {
            throw new IllegalStateException("a core has the word, or it is in flight");
        }
        words[x] = v;
    }

    public int step(int core) throws IndexOutOfBoundsException {
        Core c = coreAt(core);
        Program program = c.program;
        int at = c.at;
        if (at >= program.length) {
            return ENDED;
        }
        return execute(c, program.ops[at], program.as[at], program.bs[at]);
    }

    public int drain(int core) throws IndexOutOfBoundsException {
        Core c = coreAt(core);
        if (c.buffer.size == 0) {
            return NOTHING;
        }
        int x = c.buffer.addresses[0];
        Line line = c.lineFor(x);
        if (!line.owns(x)) {
            return ask(c, OWNING, x);
        }
        int v = c.buffer.values[0];
        line.modify(v);
        c.buffer.removeOldest();
        log.enter(DRAINED, c.number, x, v);
        return DONE;
    }

    public int grant(int core) throws IndexOutOfBoundsException {
        Core asker = coreAt(core);
        Request wish = asker.wish;
        if (wish.kind == NO_REQUEST || wish.inFlight) {
            return NOTHING;
        }
        int x = wish.address;
        if (isInFlightElsewhere(asker, x)) {
            return BUSY;
        }
        makeRoom(asker.lineFor(x), x);
        int found = wordAt(x);
        for (int i = 0; i < CORES; i++) {
            if (cores[i] != asker) {
                giveWay(cores[i].lineFor(x), x, wish.kind);
            }
        }
        wish.takeOff(found);
        return DONE;
    }

    public int fill(int core) throws IndexOutOfBoundsException {
        Core asker = coreAt(core);
        Request wish = asker.wish;
        if (!wish.inFlight) {
            return NOTHING;
        }
        int x = wish.address;
        boolean alone = wish.kind == OWNING || !isHeldElsewhere(asker, x);
        asker.lineFor(x).take(alone ? EXCLUSIVE : SHARED, x, wish.value);
        wish.forget();
        return DONE;
    }

    public int register(int core, int r) throws IndexOutOfBoundsException, IllegalArgumentException {
        Core c = coreAt(core);
        if (!isRegister(r)) {
            throw new IllegalArgumentException("no such register");
        }
        return c.registers[r];
    }

    public int place(int core) throws IndexOutOfBoundsException {
        return coreAt(core).at;
    }

    public int buffered(int core) throws IndexOutOfBoundsException {
        return coreAt(core).buffer.size;
    }

    public int storeAddress(int core, int i) throws IndexOutOfBoundsException, NoSuchElementException {
        StoreBuffer buffer = coreAt(core).buffer;
        requireStore(buffer, i);
        return buffer.addresses[i];
    }

    public int storeValue(int core, int i) throws IndexOutOfBoundsException, NoSuchElementException {
        StoreBuffer buffer = coreAt(core).buffer;
        requireStore(buffer, i);
        return buffer.values[i];
    }

    public int line(int core, int i) throws IndexOutOfBoundsException, IllegalArgumentException {
        Core c = coreAt(core);
        if (i < 0 || i >= LINES) {
            throw new IllegalArgumentException("no such line");
        }
        Line line = c.lines[i];
        return line.state == INVALID ? INVALID : line.state + 4 * line.address;
    }

    public int cached(int core, int x)
            throws IndexOutOfBoundsException, IllegalArgumentException, NoSuchElementException {
        Core c = coreAt(core);
        requireAddress(x);
        Line line = c.lineFor(x);
        if (!line.has(x)) {
            throw new NoSuchElementException("the core has not the word");
        }
        return line.value;
    }

    public int request(int core) throws IndexOutOfBoundsException {
        Request wish = coreAt(core).wish;
        if (wish.kind == NO_REQUEST) {
            return 0;
        }
        return wish.kind + (wish.inFlight ? 4 : 0) + 8 * wish.address;
    }

    public int memory(int x) throws IllegalArgumentException {
        requireAddress(x);
        return words[x];
    }

    public int word(int x) throws IllegalArgumentException {
        requireAddress(x);
        return wordAt(x);
    }

    public int events() {
        return log.count;
    }

    public int event(int i) throws NoSuchElementException {
        requireEvent(i);
        return log.heads[i % LOGGED];
    }

    public int eventValue(int i) throws NoSuchElementException {
        requireEvent(i);
        return log.values[i % LOGGED];
    }

    private Core coreAt(int core) {
        if (core < 0 || core >= CORES) {
            throw new IndexOutOfBoundsException("no such core");
        }
        return cores[core];
    }

    private static void requireAddress(int x) {
        if (x < 0 || x >= WORDS) {
            throw new IllegalArgumentException("no such address");
        }
    }

    private static void requireStore(StoreBuffer buffer, int i) {
        if (i < 0 || i >= buffer.size) {
            throw new NoSuchElementException("no such store");
        }
    }

    private void requireEvent(int i) {
        if (!log.keeps(i)) {
            throw new NoSuchElementException("no such event");
        }
    }

    private static boolean isRegister(int r) {
        return r >= 0 && r < REGISTERS;
    }

    private static boolean isInstruction(int op, int a, int b) {
        switch (op) {
            case LOAD:
            case STORE:
            case SWAP:
            case ADD:
                return isRegister(a) && isRegister(b);
            case SET:
                return isRegister(a);
            case BRANCH:
                return isRegister(a) && b >= 0 && b < MOST_INSTRUCTIONS;
            case FENCE:
            case HALT:
                return true;
            default:
                return false;
        }
    }

    private int execute(Core c, int op, int a, int b) {
        int[] r = c.registers;
        switch (op) {
            case LOAD:
                return executeLoad(c, a, r[b] & (WORDS - 1));
            case STORE:
                return executeStore(c, r[a] & (WORDS - 1), r[b]);
            case FENCE:
                return c.buffer.size == 0 ? goTo(c, c.at + 1) : STOPPED;
            case SWAP:
                return executeSwap(c, r[a] & (WORDS - 1), r[b]);
            case ADD:
                r[a] += r[b];
                return goTo(c, c.at + 1);
            case SET:
                r[a] = b;
                return goTo(c, c.at + 1);
            case BRANCH:
                return goTo(c, r[a] != 0 ? b : c.at + 1);
            default:
                return ENDED;
        }
    }

    private int executeLoad(Core c, int a, int x) {
        int youngest = c.buffer.youngestTo(x);
        Line line = c.lineFor(x);
        if (youngest < 0 && !line.has(x)) {
            return ask(c, READING, x);
        }
        int v = youngest >= 0 ? c.buffer.values[youngest] : line.value;
        c.registers[a] = v;
        log.enter(LOADED, c.number, x, v);
        return goTo(c, c.at + 1);
    }

    private static int executeStore(Core c, int x, int v) {
        if (c.buffer.isFull()) {
            return STOPPED;
        }
        c.buffer.append(x, v);
        return goTo(c, c.at + 1);
    }

    private int executeSwap(Core c, int x, int v) {
        if (c.buffer.size != 0) {
            return STOPPED;
        }
        Line line = c.lineFor(x);
        if (!line.owns(x)) {
            return ask(c, OWNING, x);
        }
        int found = line.value;
        boolean equal = found == c.registers[3];
        if (equal) {
            line.modify(v);
        }
        c.registers[3] = equal ? 1 : 0;
        log.enter(SWAPPED, c.number, x, found);
        return goTo(c, c.at + 1);
    }

    private static int goTo(Core c, int place) {
        c.at = place;
        return DONE;
    }

    private static int ask(Core c, int kind, int x) {
        if (c.wish.kind == NO_REQUEST) {
            c.wish.begin(kind, x);
        }
        return STOPPED;
    }

    private int wordAt(int x) {
        for (int i = 0; i < CORES; i++) {
            Line line = cores[i].lineFor(x);
            if (line.has(x) && line.state == MODIFIED) {
                return line.value;
            }
        }
        return words[x];
    }

    private boolean isInUse(int x) {
        for (int i = 0; i < CORES; i++) {
            if (cores[i].lineFor(x).has(x) || cores[i].wish.fliesFor(x)) {
                return true;
            }
        }
        return false;
    }

    private boolean isInFlightElsewhere(Core asker, int x) {
        for (int i = 0; i < CORES; i++) {
            if (cores[i] != asker && cores[i].wish.fliesFor(x)) {
                return true;
            }
        }
        return false;
    }

    private boolean isHeldElsewhere(Core asker, int x) {
        for (int i = 0; i < CORES; i++) {
            if (cores[i] != asker && cores[i].lineFor(x).has(x)) {
                return true;
            }
        }
        return false;
    }

    /** A line that has x already stays: its core may go on reading it until the request is filled. */
    private void makeRoom(Line line, int x) {
        if (!line.has(x)) {
            writeBack(line);
            line.state = INVALID;
        }
    }

    private void giveWay(Line line, int x, int kind) {
        if (line.has(x)) {
            writeBack(line);
            line.state = kind == READING ? SHARED : INVALID;
        }
    }

    private void writeBack(Line line) {
        if (line.state == MODIFIED) {
            words[line.address] = line.value;
        }
    }

    private static final class Core {
        final int number;
        final int[] registers = new int[REGISTERS];
        final Program program = new Program();
        final StoreBuffer buffer;
        final Line[] lines = new Line[LINES];
        final Request wish = new Request();
        int at;

        Core(int number, int stores) {
            this.number = number;
            buffer = new StoreBuffer(stores);
            for (int i = 0; i < LINES; i++) {
                lines[i] = new Line();
            }
        }

        Line lineFor(int x) {
            return lines[x & (LINES - 1)];
        }
    }

    private static final class Program {
        final int[] ops = new int[MOST_INSTRUCTIONS];
        final int[] as = new int[MOST_INSTRUCTIONS];
        final int[] bs = new int[MOST_INSTRUCTIONS];
        int length;

        void append(int op, int a, int b) {
            ops[length] = op;
            as[length] = a;
            bs[length] = b;
            length++;
        }
    }

    /** The stores of a core that have not reached its cache; the oldest is at 0. */
    private static final class StoreBuffer {
        final int[] addresses;
        final int[] values;
        int size;

        StoreBuffer(int most) {
            addresses = new int[most];
            values = new int[most];
        }

        boolean isFull() {
            return size == addresses.length;
        }

        void append(int x, int v) {
            addresses[size] = x;
            values[size] = v;
            size++;
        }

        void removeOldest() {
            size--;
            for (int i = 0; i < size; i++) {
                addresses[i] = addresses[i + 1];
                values[i] = values[i + 1];
            }
        }

        /** The index of the youngest store to x, or -1. */
        int youngestTo(int x) {
            for (int i = size - 1; i >= 0; i--) {
                if (addresses[i] == x) {
                    return i;
                }
            }
            return -1;
        }
    }

    private static final class Line {
        int state;
        int address;
        int value;

        boolean has(int x) {
            return state != INVALID && address == x;
        }

        boolean owns(int x) {
            return has(x) && state != SHARED;
        }

        void take(int newState, int x, int v) {
            state = newState;
            address = x;
            value = v;
        }

        void modify(int v) {
            state = MODIFIED;
            value = v;
        }
    }

    /** What a core wants from the bus. One object for each core, used again for each of its requests. */
    private static final class Request {
        int kind;
        int address;
        boolean inFlight;
        int value;

        boolean fliesFor(int x) {
            return inFlight && address == x;
        }

        void begin(int newKind, int x) {
            kind = newKind;
            address = x;
        }

        void takeOff(int v) {
            inFlight = true;
            value = v;
        }

        void forget() {
            kind = NO_REQUEST;
            inFlight = false;
        }
    }

    /** The latest events, each at its number modulo the log's length. */
    private static final class Log {
        final int[] heads = new int[LOGGED];
        final int[] values = new int[LOGGED];
        int count;

        void enter(int kind, int core, int x, int v) {
            // floorMod: the slot stays in range even if a misused object's count wraps
            int slot = Math.floorMod(count, LOGGED);
            heads[slot] = kind + 4 * core + 16 * x;
            values[slot] = v;
            count++;
        }

        boolean keeps(int i) {
            return i >= 0 && i < count && i >= count - LOGGED;
        }
    }
}
