import java.util.ArrayList;
import java.util.Arrays;
import java.util.HashMap;
import java.util.HashSet;
import java.util.List;
import java.util.Map;
import java.util.Set;

/**
 * Makes the same calls on the class and on a model that is written from the document alone, in
 * another way (lists, sets and maps; nothing kept from call to call but the state), and compares
 * every answer. The calls come from a fixed row of numbers, so each time they are the same.
 */
public final class ModelTest {
    private static final int OBJECTS = 2500;
    private static final int CALLS = 160;

    private static final class Model {
        private final List<Integer> parents = new ArrayList<>(List.of(-1));
        private List<int[]> code = new ArrayList<>();
        private List<int[]> table = new ArrayList<>();
        private int executed = 0;
        private int taken = 0;
        private int escaped = -1;
        private long way = 0;

        private static <T> T index(boolean there, T answer) {
            if (!there) {
                throw new IndexOutOfBoundsException();
            }
            return answer;
        }

        private static void argument(boolean right) {
            if (!right) {
                throw new IllegalArgumentException();
            }
        }

        private static void state(boolean room) {
            if (!room) {
                throw new IllegalStateException();
            }
        }

        private void kind(int k) {
            index(k >= 0 && k < parents.size(), 0);
        }

        private static void target(int t) {
            argument(t >= 0 && t <= 47);
        }

        private void set(int thrown) {
            argument(thrown >= 0 && thrown < Math.pow(2, parents.size()));
        }

        private List<Integer> chain(int k) {
            List<Integer> up = new ArrayList<>();
            for (int at = k; at != -1; at = parents.get(at)) {
                up.add(at);
            }
            return up;
        }

        private static Set<Integer> members(int set) {
            Set<Integer> kinds = new java.util.TreeSet<>();
            for (int k = 0; k < 8; k++) {
                if (set / (1 << k) % 2 == 1) {
                    kinds.add(k);
                }
            }
            return kinds;
        }

        private int append(int form, int thrown, int target) {
            state(code.size() < 48);
            code.add(new int[] {form, thrown, target});
            return code.size() - 1;
        }

        private int takerIn(List<int[]> entries, int i, int k) {
            List<Integer> up = chain(k);
            for (int[] e : entries) {
                if (i >= e[0] && i < e[1] && up.contains(e[2])) {
                    return entries.indexOf(e);
                }
            }
            return -1;
        }

        private Set<Integer> reached() {
            Set<Integer> found = new HashSet<>();
            if (!code.isEmpty()) {
                found.add(0);
            }
            for (boolean more = true; more;) {
                Set<Integer> next = new HashSet<>(found);
                for (int i : found) {
                    int form = code.get(i)[0];
                    if (form == 0 || form == 2) {
                        next.add(i + 1);
                    }
                    if (form == 1 || form == 2) {
                        next.add(code.get(i)[2]);
                    }
                    for (int k : members(code.get(i)[1])) {
                        int e = takerIn(table, i, k);
                        if (e != -1) {
                            next.add(table.get(e)[3]);
                        }
                    }
                }
                next.removeIf(i -> i >= code.size());
                more = !next.equals(found);
                found = next;
            }
            return found;
        }

        /** Instruction and kind, and the entry that takes the error. */
        private Map<List<Integer>, Integer> takers(List<int[]> entries, Set<Integer> from) {
            Map<List<Integer>, Integer> map = new HashMap<>();
            for (int i : from) {
                for (int k : members(code.get(i)[1])) {
                    map.put(List.of(i, k), takerIn(entries, i, k));
                }
            }
            return map;
        }

        private Map<List<Integer>, Integer> goals(List<int[]> entries, Set<Integer> from) {
            Map<List<Integer>, Integer> map = takers(entries, from);
            map.replaceAll((pair, e) -> e == -1 ? -1 : entries.get(e)[3]);
            return map;
        }

        private int common(int a, int b) {
            for (int k : chain(a)) {
                if (chain(b).contains(k)) {
                    return k;
                }
            }
            throw new AssertionError();
        }

        private int parts() {
            int parts = 0;
            List<Integer> last = null;
            for (int i = 0; i < code.size(); i++) {
                List<Integer> row = new ArrayList<>();
                for (int k = 0; k < parents.size(); k++) {
                    int e = takerIn(table, i, k);
                    row.add(e == -1 ? -1 : table.get(e)[3]);
                }
                if (!row.equals(last)) {
                    parts++;
                }
                last = row;
            }
            return parts;
        }

        private int drop() {
            Map<List<Integer>, Integer> map = takers(table, reached());
            List<int[]> left = new ArrayList<>();
            for (int e = 0; e < table.size(); e++) {
                if (map.containsValue(e)) {
                    left.add(table.get(e));
                }
            }
            int dropped = table.size() - left.size();
            table = left;
            return dropped;
        }

        private int shrink() {
            Map<List<Integer>, Integer> map = takers(table, reached());
            int changed = 0;
            for (int e = 0; e < table.size(); e++) {
                int[] entry = table.get(e);
                int first = 99;
                int last = -1;
                for (Map.Entry<List<Integer>, Integer> pair : map.entrySet()) {
                    if (pair.getValue() == e) {
                        first = Math.min(first, pair.getKey().get(0));
                        last = Math.max(last, pair.getKey().get(0));
                    }
                }
                if (last != -1 && (entry[0] != first || entry[1] != last + 1)) {
                    entry[0] = first;
                    entry[1] = last + 1;
                    changed++;
                }
            }
            return changed;
        }

        private boolean joinOne() {
            Set<Integer> from = reached();
            Map<List<Integer>, Integer> before = goals(table, from);
            for (int a = 0; a < table.size(); a++) {
                for (int b = a + 1; b < table.size(); b++) {
                    int[] one = table.get(a);
                    int[] two = table.get(b);
                    if (one[3] != two[3]) {
                        continue;
                    }
                    int[] joined = {Math.min(one[0], two[0]), Math.max(one[1], two[1]),
                        common(one[2], two[2]), one[3]};
                    List<int[]> first = new ArrayList<>(table);
                    first.set(a, joined);
                    first.remove(b);
                    List<int[]> second = new ArrayList<>(table);
                    second.set(b, joined);
                    second.remove(a);
                    for (List<int[]> way : List.of(first, second)) {
                        if (goals(way, from).equals(before)) {
                            table = way;
                            return true;
                        }
                    }
                }
            }
            return false;
        }

        private int join() {
            int joins = 0;
            while (joinOne()) {
                joins++;
            }
            return joins;
        }

        private int improve() {
            int rounds = 0;
            while (true) {
                String before = Arrays.deepToString(table.toArray());
                drop();
                shrink();
                join();
                if (Arrays.deepToString(table.toArray()).equals(before)) {
                    return rounds;
                }
                rounds++;
            }
        }

        private int sweep() {
            Set<Integer> kept = reached();
            Set<Integer> gone = new HashSet<>();
            for (int i = 0; i < code.size(); i++) {
                if (!kept.contains(i)) {
                    gone.add(i);
                }
            }
            List<int[]> left = new ArrayList<>();
            for (int i = 0; i < code.size(); i++) {
                int[] c = code.get(i);
                if (kept.contains(i)) {
                    left.add(new int[] {c[0], c[1], less(c[2], gone)});
                }
            }
            code = left;
            for (int[] e : table) {
                e[0] = less(e[0], gone);
                e[1] = less(e[1], gone);
                e[3] = less(e[3], gone);
            }
            table.removeIf(e -> e[0] == e[1]);
            return gone.size();
        }

        private static int less(int number, Set<Integer> gone) {
            return number - (int) gone.stream().filter(i -> i < number).count();
        }

        private int run(long choices, int most) {
            argument(choices >= 0 && most >= 0 && most <= 500);
            executed = 0;
            taken = 0;
            escaped = -1;
            way = 7;
            int at = 0;
            long x = choices;
            while (true) {
                if (at >= code.size()) {
                    return 0;
                }
                if (executed == most) {
                    return 2;
                }
                executed++;
                int[] c = code.get(at);
                way = 31 * way + c[0];
                if (c[0] == 3) {
                    return 0;
                }
                // Where it goes on, or 1000 and the kind that is thrown.
                List<Integer> options = new ArrayList<>();
                if (c[0] == 0 || c[0] == 2) {
                    options.add(at + 1);
                }
                if (c[0] == 1 || c[0] == 2) {
                    options.add(c[2]);
                }
                for (int k : members(c[1])) {
                    options.add(1000 + k);
                }
                int option = options.get((int) (x % options.size()));
                x = x / options.size();
                if (option < 1000) {
                    at = option;
                    continue;
                }
                int kind = option - 1000;
                way = 31 * way + 10 + kind;
                int e = takerIn(table, at, kind);
                if (e == -1) {
                    escaped = kind;
                    return 1;
                }
                taken++;
                at = table.get(e)[3];
            }
        }

        private long digest() {
            List<Integer> numbers = new ArrayList<>();
            numbers.add(parents.size());
            numbers.addAll(parents.subList(1, parents.size()));
            for (List<int[]> rows : List.of(code, table)) {
                numbers.add(rows.size());
                rows.forEach(row -> Arrays.stream(row).forEach(numbers::add));
            }
            numbers.addAll(List.of(executed, taken, escaped));
            long d = 137;
            for (int n : numbers) {
                d = d * 31 + n;
            }
            return d;
        }

        private Object call(int method, int a, int b, int c, int d, long choices) {
            Set<Integer> from = reached();
            switch (method) {
                case 0:
                    kind(a);
                    state(parents.size() < 8);
                    parents.add(a);
                    return parents.size() - 1;
                case 1:
                    return parents.size();
                case 2:
                    kind(a);
                    kind(b);
                    return a != b && chain(a).contains(b);
                case 3:
                    kind(a);
                    kind(b);
                    return common(a, b);
                case 4:
                    set(a);
                    return append(0, a, -1);
                case 5:
                    target(a);
                    return append(1, 0, a);
                case 6:
                    set(a);
                    target(b);
                    return append(2, a, b);
                case 7:
                    return append(3, 0, -1);
                case 8:
                    kind(a);
                    return append(4, 1 << a, -1);
                case 9:
                    return code.size();
                case 10:
                    index(a >= 0 && a < code.size() && b >= 0 && b <= 2, 0);
                    return code.get(a)[b];
                case 11:
                    kind(c);
                    argument(a >= 0 && b <= 48 && a < b);
                    target(d);
                    state(table.size() < 24);
                    table.add(new int[] {a, b, c, d});
                    return table.size() - 1;
                case 12:
                    index(a >= 0 && a < table.size(), 0);
                    table.remove(a);
                    return table.size();
                case 13:
                    return table.size();
                case 14:
                    index(a >= 0 && a < table.size() && b >= 0 && b <= 3, 0);
                    return table.get(a)[b];
                case 15:
                    index(a >= 0 && a < code.size(), 0);
                    kind(b);
                    return takerIn(table, a, b);
                case 16:
                    return index(a >= 0 && a < code.size(), from.contains(a));
                case 17:
                    return index(a >= 0 && a < table.size(),
                            takers(table, from).containsValue(a));
                case 18:
                    return takers(table, from).entrySet().stream()
                            .filter(pair -> pair.getValue() == -1)
                            .mapToInt(pair -> 1 << pair.getKey().get(1))
                            .reduce(0, (s, t) -> s | t);
                case 19:
                    int all = takers(table, from).size();
                    long out = takers(table, from).values().stream().filter(e -> e == -1).count();
                    return all == 0 ? 0.0 : (double) (all - out) / all;
                case 20:
                    return parts();
                case 21:
                    return drop();
                case 22:
                    return shrink();
                case 23:
                    return join();
                case 24:
                    return improve();
                case 25:
                    return sweep();
                case 26:
                    return run(choices, a);
                case 27:
                    return executed;
                case 28:
                    return taken;
                case 29:
                    return escaped;
                case 30:
                    return way;
                default:
                    return digest();
            }
        }
    }

    private static Object call(HandlerOptimizer x, int method, int[] n, long choices) {
        switch (method) {
            case 0: return x.addKind(n[0]);
            case 1: return x.kindCount();
            case 2: return x.isBelow(n[0], n[1]);
            case 3: return x.common(n[0], n[1]);
            case 4: return x.step(n[0]);
            case 5: return x.jump(n[0]);
            case 6: return x.branch(n[0], n[1]);
            case 7: return x.end();
            case 8: return x.raise(n[0]);
            case 9: return x.size();
            case 10: return x.instruction(n[0], n[1]);
            case 11: return x.addEntry(n[0], n[1], n[2], n[3]);
            case 12: return x.removeEntry(n[0]);
            case 13: return x.entryCount();
            case 14: return x.entry(n[0], n[1]);
            case 15: return x.taker(n[0], n[1]);
            case 16: return x.isReached(n[0]);
            case 17: return x.isUsed(n[0]);
            case 18: return x.leaving();
            case 19: return x.share();
            case 20: return x.parts();
            case 21: return x.drop();
            case 22: return x.shrink();
            case 23: return x.join();
            case 24: return x.improve();
            case 25: return x.sweep();
            case 26: return x.run(choices, n[0]);
            case 27: return x.executed();
            case 28: return x.taken();
            case 29: return x.escaped();
            case 30: return x.way();
            default: return x.digest();
        }
    }

    private static final int[] BUILD = {0, 4, 4, 4, 4, 5, 6, 6, 6, 7, 8,
        11, 11, 11, 11, 11, 11, 11};
    private static final int[] CHANGE = {12, 21, 22, 23, 23, 24, 25};

    private static long seed = 20261118;
    private static int wrong = 0;
    private static int mostRounds = 0;
    private static final Set<String> outcomes = new HashSet<>();

    private ModelTest() {
    }

    private static int next(int bound) {
        seed = seed * 6364136223846793005L + 1442695040888963407L;
        return (int) ((seed >>> 33) % bound);
    }

    private static int method(int call, int kinds, int building) {
        if (call < kinds) {
            return 0;
        }
        if (call < building) {
            return BUILD[next(BUILD.length)];
        }
        if (call == building) {
            return 22 + next(4);
        }
        switch (next(8)) {
            case 0:
                return CHANGE[next(CHANGE.length)];
            case 1:
                return BUILD[next(BUILD.length)];
            case 2:
            case 3:
                return 26;
            default:
                return next(32);
        }
    }

    private static int odd() {
        int[] odd = {-1, -2, 48, 49, 8, 256, 24, 501, Integer.MIN_VALUE, Integer.MAX_VALUE};
        return odd[next(odd.length)];
    }

    /** Numbers that mostly suit the method, so that the calls do something. */
    private static int[] numbers(int method, Model m, int spread, int goals) {
        int kinds = m.parents.size();
        int kind = next(kinds);
        int set = next(1 << kinds) & next(1 << kinds);
        int goal = next(goals);
        int from = next(spread);
        int[] n;
        switch (method) {
            case 4: n = new int[] {set, 0, 0, 0}; break;
            case 5: n = new int[] {next(spread), 0, 0, 0}; break;
            case 6: n = new int[] {set, next(spread), 0, 0}; break;
            case 10: n = new int[] {next(m.code.size() + 1), next(3), 0, 0}; break;
            case 11: n = new int[] {from, from + 1 + next(5), kind, goal * 5 % 48}; break;
            case 12: case 14: case 17:
                n = new int[] {next(m.table.size() + 1), next(4), 0, 0}; break;
            case 15: case 16: n = new int[] {next(m.code.size() + 1), kind, 0, 0}; break;
            case 26: n = new int[] {next(4) == 0 ? next(20) : next(501), 0, 0, 0}; break;
            default: n = new int[] {kind, next(kinds), 0, 0}; break;
        }
        if (next(25) == 0) {
            n[next(4)] = odd();
        }
        return n;
    }

    private static long choices() {
        switch (next(10)) {
            case 0: return -1L - next(3);
            case 1: return Long.MAX_VALUE - next(1000);
            case 2: return next(20);
            default: return (long) next(Integer.MAX_VALUE) * next(Integer.MAX_VALUE);
        }
    }

    private static Object answer(java.util.function.Supplier<Object> call) {
        try {
            return call.get();
        } catch (RuntimeException e) {
            return e.getClass().getName();
        }
    }

    private static void due(String name, Object got, Object want) {
        if (!got.equals(want)) {
            wrong++;
            if (wrong < 20) {
                System.out.println(name + " answered " + got + ", due is " + want);
            }
        }
    }

    private static void compare(int object) {
        HandlerOptimizer x = new HandlerOptimizer();
        Model m = new Model();
        int spread = 4 + next(45);
        int goals = 1 + next(4);
        int kinds = next(8);
        int building = 10 + next(100);
        for (int i = 0; i < CALLS; i++) {
            int method = method(i, kinds, building);
            int[] n = numbers(method, m, spread, goals);
            long choices = choices();
            Object want = answer(() -> m.call(method, n[0], n[1], n[2], n[3], choices));
            Object got = answer(() -> call(x, method, n, choices));
            String name = "object " + object + " call " + i + ": " + method + Arrays.toString(n);
            due(name, got, want);
            due(name + " digest", x.digest(), m.digest());
            due(name + " way", x.way(), m.way);
            outcomes.add(method + ":" + want);
            if (method == 24) {
                mostRounds = Math.max(mostRounds, (Integer) want);
            }
        }
    }

    public static void main(String[] args) {
        for (int object = 0; object < OBJECTS; object++) {
            compare(object);
        }
        System.out.println(OBJECTS * CALLS + " calls, " + wrong + " wrong; improve took up to "
                + mostRounds + " rounds; " + outcomes.size() + " different answers");
        System.exit(wrong == 0 ? 0 : 1);
    }
}
