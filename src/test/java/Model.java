import java.util.ArrayDeque;
import java.util.ArrayList;
import java.util.Deque;
import java.util.HashMap;
import java.util.List;
import java.util.Map;
import java.util.NoSuchElementException;

/** A second, slow reading of the document, close to its words, for RandomRunsTest to hold the class against. */
final class Model {
    private enum State { I, S, E, M }

    private record Line(State state, int address, int value) {
    }

    private record Store(int address, int value) {
    }

    private record Request(boolean owning, int address, boolean inFlight, int value) {
    }

    private record Event(int kind, int core, int address, int value) {
    }

    private static final class Core {
        final int[] registers = new int[4];
        final List<int[]> program = new ArrayList<>();
        final Deque<Store> buffer = new ArrayDeque<>();
        final Map<Integer, Line> cache = new HashMap<>();
        int place = 0;
        Request request = null;

        boolean has(int x) {
            Line line = cache.get(x % 2);
            return line != null && line.address == x;
        }

        boolean owns(int x) {
            return has(x) && cache.get(x % 2).state.compareTo(State.E) >= 0;
        }

        int ask(boolean owning, int x) {
            if (request == null) {
                request = new Request(owning, x, false, 0);
            }
            return BufferedCores.STOPPED;
        }

        boolean fliesFor(int x) {
            return request != null && request.inFlight && request.address == x;
        }
    }

    private final int k;
    private final int[] memory = new int[8];
    private final List<Core> cores = List.of(new Core(), new Core(), new Core());
    private final List<Event> all = new ArrayList<>();

    Model(int stores) {
        k = stores < 1 ? 1 : stores > 4 ? 4 : stores;
    }

    /** Answers the call of that name; numbers that it has not are not looked at. */
    int call(String name, int p, int q, int r, int s) {
        switch (name) {
            case "code": return code(core(p), q, r, s);
            case "poke": return poke(p, q);
            case "step": return step(p);
            case "drain": return drain(p);
            case "grant": return grant(core(p));
            case "fill": return fill(core(p));
            case "register": return register(core(p), q);
            case "place": return core(p).place;
            case "buffered": return core(p).buffer.size();
            case "storeAddress": return store(core(p), q).address;
            case "storeValue": return store(core(p), q).value;
            case "line": return line(core(p), q);
            case "cached": return cached(core(p), q);
            case "request": return request(core(p).request);
            case "memory": return memory[address(p)];
            case "word": return word(address(p));
            case "events": return all.size();
            case "event": return event(p).kind + 4 * event(p).core + 16 * event(p).address;
            case "eventValue": return event(p).value;
            default: throw new AssertionError(name);
        }
    }

    private Core core(int number) {
        if (number < 0 || number > 2) {
            throw new IndexOutOfBoundsException();
        }
        return cores.get(number);
    }

    private static int address(int x) {
        if (x < 0 || x > 7) {
            throw new IllegalArgumentException();
        }
        return x;
    }

    private static int code(Core core, int op, int a, int b) {
        boolean wrong = op < 0 || op > 7
            || op != 2 && op != 7 && (a < 0 || a > 3)
            || (op == 0 || op == 1 || op == 3 || op == 4) && (b < 0 || b > 3)
            || op == 6 && (b < 0 || b > 15);
        if (wrong) {
            throw new IllegalArgumentException();
        }
        if (core.program.size() == 16) {
            throw new IllegalStateException();
        }
        core.program.add(new int[] {op, a, b});
        return core.program.size();
    }

    private int poke(int x, int v) {
        address(x);
        if (cores.stream().anyMatch(c -> c.has(x) || c.fliesFor(x))) {
            throw new IllegalStateException();
        }
        memory[x] = v;
        return 0;
    }

    private int step(int number) {
        Core core = core(number);
        if (core.place >= core.program.size() || core.program.get(core.place)[0] == 7) {
            return BufferedCores.ENDED;
        }
        int[] now = core.program.get(core.place);
        int before = core.place;
        int answer = instruction(core, number, now[0], now[1], now[2]);
        if (answer == BufferedCores.DONE && !(now[0] == 6 && core.registers[now[1]] != 0)) {
            core.place = before + 1;
        }
        return answer;
    }

    private int instruction(Core core, int number, int op, int a, int b) {
        int[] r = core.registers;
        switch (op) {
            case 0:
                return load(core, number, a, Math.floorMod(r[b], 8));
            case 1:
                if (core.buffer.size() == k) {
                    return BufferedCores.STOPPED;
                }
                core.buffer.addLast(new Store(Math.floorMod(r[a], 8), r[b]));
                return BufferedCores.DONE;
            case 2:
                return core.buffer.isEmpty() ? BufferedCores.DONE : BufferedCores.STOPPED;
            case 3:
                return swap(core, number, Math.floorMod(r[a], 8), r[b]);
            case 4:
                r[a] = r[a] + r[b];
                return BufferedCores.DONE;
            case 5:
                r[a] = b;
                return BufferedCores.DONE;
            default:
                core.place = r[a] != 0 ? b : core.place;
                return BufferedCores.DONE;
        }
    }

    private int load(Core core, int number, int a, int x) {
        Integer value = null;
        for (Store store : core.buffer) {
            if (store.address == x) {
                value = store.value;
            }
        }
        if (value == null && core.has(x)) {
            value = core.cache.get(x % 2).value;
        }
        if (value == null) {
            return core.ask(false, x);
        }
        core.registers[a] = value;
        all.add(new Event(0, number, x, value));
        return BufferedCores.DONE;
    }

    private int swap(Core core, int number, int x, int wanted) {
        if (!core.buffer.isEmpty()) {
            return BufferedCores.STOPPED;
        }
        if (!core.owns(x)) {
            return core.ask(true, x);
        }
        int found = core.cache.get(x % 2).value;
        if (found == core.registers[3]) {
            core.cache.put(x % 2, new Line(State.M, x, wanted));
            core.registers[3] = 1;
        } else {
            core.registers[3] = 0;
        }
        all.add(new Event(2, number, x, found));
        return BufferedCores.DONE;
    }

    private int drain(int number) {
        Core core = core(number);
        if (core.buffer.isEmpty()) {
            return BufferedCores.NOTHING;
        }
        Store oldest = core.buffer.peekFirst();
        if (!core.owns(oldest.address)) {
            return core.ask(true, oldest.address);
        }
        core.cache.put(oldest.address % 2, new Line(State.M, oldest.address, oldest.value));
        core.buffer.removeFirst();
        all.add(new Event(1, number, oldest.address, oldest.value));
        return BufferedCores.DONE;
    }

    private int grant(Core core) {
        Request asked = core.request;
        if (asked == null || asked.inFlight) {
            return BufferedCores.NOTHING;
        }
        int x = asked.address;
        List<Core> others = cores.stream().filter(c -> c != core).toList();
        if (others.stream().anyMatch(c -> c.fliesFor(x))) {
            return BufferedCores.BUSY;
        }
        if (core.cache.containsKey(x % 2) && !core.has(x)) {
            writeBack(core.cache.remove(x % 2));
        }
        core.request = new Request(asked.owning, x, true, word(x));
        for (Core other : others) {
            if (other.has(x)) {
                Line given = other.cache.remove(x % 2);
                writeBack(given);
                if (!asked.owning) {
                    other.cache.put(x % 2, new Line(State.S, x, given.value));
                }
            }
        }
        return BufferedCores.DONE;
    }

    private void writeBack(Line line) {
        if (line.state == State.M) {
            memory[line.address] = line.value;
        }
    }

    private int fill(Core core) {
        Request asked = core.request;
        if (asked == null || !asked.inFlight) {
            return BufferedCores.NOTHING;
        }
        int x = asked.address;
        boolean others = cores.stream().anyMatch(c -> c != core && c.has(x));
        core.cache.put(x % 2, new Line(asked.owning || !others ? State.E : State.S, x, asked.value));
        core.request = null;
        return BufferedCores.DONE;
    }

    private static int register(Core core, int r) {
        if (r < 0 || r > 3) {
            throw new IllegalArgumentException();
        }
        return core.registers[r];
    }

    private static Store store(Core core, int i) {
        if (i < 0 || i >= core.buffer.size()) {
            throw new NoSuchElementException();
        }
        return new ArrayList<>(core.buffer).get(i);
    }

    private static int line(Core core, int i) {
        if (i != 0 && i != 1) {
            throw new IllegalArgumentException();
        }
        Line line = core.cache.get(i);
        return line == null ? 0 : line.state.ordinal() + 4 * line.address;
    }

    private static int cached(Core core, int x) {
        if (!core.has(address(x))) {
            throw new NoSuchElementException();
        }
        return core.cache.get(x % 2).value;
    }

    private static int request(Request request) {
        if (request == null) {
            return 0;
        }
        return (request.owning ? 2 : 1) + (request.inFlight ? 4 : 0) + 8 * request.address;
    }

    private int word(int x) {
        for (Core core : cores) {
            if (core.has(x) && core.cache.get(x % 2).state == State.M) {
                return core.cache.get(x % 2).value;
            }
        }
        return memory[x];
    }

    private Event event(int i) {
        if (i < 0 || i >= all.size() || all.size() - i > 40) {
            throw new NoSuchElementException();
        }
        return all.get(i);
    }
}
