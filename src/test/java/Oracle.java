import java.util.ArrayList;
import java.util.HashMap;
import java.util.List;
import java.util.Map;
import java.util.Set;
import java.util.TreeMap;
import java.util.TreeSet;

/** The document's words once more, with maps and sets and a recursion, so that both can be compared. */
final class Oracle {
    private static final int NONE = -1;
    private static final int HOPELESS = -2;

    private record Clause(int weight, List<Integer> literals) {
    }

    private record Logged(int have, int values, long best) {
    }

    private final int n;
    private final List<Clause> clauses = new ArrayList<>();
    private final List<Logged> log = new ArrayList<>();
    private int nodes;
    private Map<Integer, Boolean> bestOne;
    private long bestCost;

    Oracle(int n) {
        this.n = n < 1 ? 1 : n > 10 ? 10 : n;
    }

    int variables() {
        return n;
    }

    int clause(int weight, int a, int b, int c, int d) {
        List<Integer> literals = new ArrayList<>();
        Set<Integer> seen = new TreeSet<>();
        for (int literal : new int[] {a, b, c, d}) {
            if (literal == -1) {
                continue;
            }
            if (literal < 0 || literal > 2 * n - 1 || !seen.add(literal / 2)) {
                throw new IllegalArgumentException();
            }
            literals.add(literal);
        }
        if (weight < 0 || weight > 1000000 || literals.isEmpty()) {
            throw new IllegalArgumentException();
        }
        if (clauses.size() == 40) {
            throw new IllegalStateException();
        }
        clauses.add(new Clause(weight, literals));
        end();
        return clauses.size() - 1;
    }

    int drop() {
        if (clauses.isEmpty()) {
            return NONE;
        }
        clauses.remove(clauses.size() - 1);
        end();
        return clauses.size();
    }

    int weigh(int k, int weight) {
        if (k < 0 || k >= clauses.size() || weight < 0 || weight > 1000000) {
            throw new IllegalArgumentException();
        }
        Clause old = clauses.set(k, new Clause(weight, clauses.get(k).literals));
        end();
        return old.weight;
    }

    int clauses() {
        return clauses.size();
    }

    long cost(int have, int values) {
        return costUnder(state(have, values));
    }

    long bound(int have, int values) {
        return boundWith(state(have, values), new ArrayList<>());
    }

    long subset(int have, int values, int j) {
        List<Set<Integer>> subsets = new ArrayList<>();
        boundWith(state(have, values), subsets);
        if (j < 0 || j >= subsets.size()) {
            return 0;
        }
        long sum = 0;
        for (int k : subsets.get(j)) {
            sum += (long) Math.pow(2, k);
        }
        return sum;
    }

    int first(int have, int values) {
        return firstUnder(state(have, values));
    }

    long solve() {
        end();
        visit(new TreeMap<>());
        return bestOne == null ? HOPELESS : bestCost;
    }

    int value(int v) {
        if (bestOne == null || !bestOne.containsKey(v)) {
            return NONE;
        }
        return bestOne.get(v) ? 1 : 0;
    }

    int nodes() {
        return nodes;
    }

    int logged() {
        return log.size();
    }

    int log(int k, int what) {
        if (k < 0 || k >= log.size() || what < 0 || what > 1) {
            return NONE;
        }
        return what == 0 ? log.get(k).have : log.get(k).values;
    }

    long best(int k) {
        return k < 0 || k >= log.size() ? NONE : log.get(k).best;
    }

    private void end() {
        nodes = 0;
        log.clear();
        bestOne = null;
    }

    private Map<Integer, Boolean> state(int have, int values) {
        Map<Integer, Boolean> state = new TreeMap<>();
        for (int v = 0; v < 32; v++) {
            boolean has = (have & 1 << v) != 0;
            boolean isTrue = (values & 1 << v) != 0;
            if (has && v >= n || isTrue && !has) {
                throw new IllegalArgumentException();
            }
            if (has) {
                state.put(v, isTrue);
            }
        }
        return state;
    }

    private static String kind(Clause clause, Map<Integer, Boolean> state) {
        boolean allFalse = true;
        for (int literal : clause.literals) {
            Boolean value = state.get(literal / 2);
            if (value == null) {
                allFalse = false;
            } else if (value == (literal % 2 == 0)) {
                return "true";
            }
        }
        return allFalse ? "false" : "open";
    }

    private static List<Integer> literalsWithoutValue(Clause clause, Map<Integer, Boolean> state) {
        List<Integer> left = new ArrayList<>();
        for (int literal : clause.literals) {
            if (!state.containsKey(literal / 2)) {
                left.add(literal);
            }
        }
        return left;
    }

    private long costUnder(Map<Integer, Boolean> state) {
        long sum = 0;
        boolean hardFalse = false;
        for (Clause clause : clauses) {
            if (kind(clause, state).equals("false")) {
                sum += clause.weight;
                hardFalse |= clause.weight == 0;
            }
        }
        return hardFalse ? HOPELESS : sum;
    }

    private long boundWith(Map<Integer, Boolean> state, List<Set<Integer>> subsets) {
        long bound = costUnder(state);
        if (bound == HOPELESS) {
            return HOPELESS;
        }
        Set<Integer> available = new TreeSet<>();
        for (int k = 0; k < clauses.size(); k++) {
            if (kind(clauses.get(k), state).equals("open")) {
                available.add(k);
            }
        }
        while (true) {
            Set<Integer> subset = round(state, available);
            if (subset == null) {
                return bound;
            }
            subsets.add(subset);
            long weight = Long.MAX_VALUE;
            for (int k : subset) {
                if (clauses.get(k).weight > 0) {
                    weight = Math.min(weight, clauses.get(k).weight);
                }
            }
            if (weight == Long.MAX_VALUE) {
                return HOPELESS;
            }
            bound += weight;
            available.removeAll(subset);
        }
    }

    private Set<Integer> round(Map<Integer, Boolean> state, Set<Integer> available) {
        Map<Integer, Boolean> x = new TreeMap<>(state);
        Map<Integer, Integer> reasons = new HashMap<>();
        while (leastFalse(x, available) == null) {
            Integer unit = leastWithOneLeft(x, available);
            if (unit == null) {
                return null;
            }
            int literal = literalsWithoutValue(clauses.get(unit), x).get(0);
            x.put(literal / 2, literal % 2 == 0);
            reasons.put(literal / 2, unit);
        }
        return closure(leastFalse(x, available), reasons);
    }

    private Set<Integer> closure(int begin, Map<Integer, Integer> reasons) {
        Set<Integer> subset = new TreeSet<>();
        subset.add(begin);
        boolean grows = true;
        while (grows) {
            grows = false;
            for (int k : new ArrayList<>(subset)) {
                for (int literal : clauses.get(k).literals) {
                    Integer reason = reasons.get(literal / 2);
                    if (reason != null && subset.add(reason)) {
                        grows = true;
                    }
                }
            }
        }
        return subset;
    }

    private Integer leastFalse(Map<Integer, Boolean> x, Set<Integer> available) {
        for (int k : available) {
            if (kind(clauses.get(k), x).equals("false")) {
                return k;
            }
        }
        return null;
    }

    private Integer leastWithOneLeft(Map<Integer, Boolean> x, Set<Integer> available) {
        for (int k : available) {
            Clause clause = clauses.get(k);
            if (kind(clause, x).equals("open") && literalsWithoutValue(clause, x).size() == 1) {
                return k;
            }
        }
        return null;
    }

    private int firstUnder(Map<Integer, Boolean> state) {
        int[] sayTrue = new int[n];
        int[] sayFalse = new int[n];
        for (Clause clause : clauses) {
            if (kind(clause, state).equals("open")) {
                for (int literal : clause.literals) {
                    (literal % 2 == 0 ? sayTrue : sayFalse)[literal / 2]++;
                }
            }
        }
        int chosen = NONE;
        for (int v = n - 1; v >= 0; v--) {
            if (!state.containsKey(v)
                    && (chosen == NONE || sayTrue[v] + sayFalse[v] >= sayTrue[chosen] + sayFalse[chosen])) {
                chosen = v;
            }
        }
        if (chosen == NONE) {
            return NONE;
        }
        return sayFalse[chosen] > sayTrue[chosen] ? 2 * chosen + 1 : 2 * chosen;
    }

    private void visit(Map<Integer, Boolean> state) {
        nodes++;
        if (state.size() == n) {
            long cost = costUnder(state);
            if (cost != HOPELESS && (bestOne == null || cost < bestCost)) {
                bestOne = state;
                bestCost = cost;
            }
            return;
        }
        long bound = boundWith(state, new ArrayList<>());
        if (bound == HOPELESS || bestOne != null && !(bestCost > bound)) {
            log.add(logEntry(state));
            return;
        }
        int literal = firstUnder(state);
        for (boolean value : new boolean[] {literal % 2 == 0, literal % 2 == 1}) {
            Map<Integer, Boolean> next = new TreeMap<>(state);
            next.put(literal / 2, value);
            visit(next);
        }
    }

    private Logged logEntry(Map<Integer, Boolean> state) {
        int have = 0;
        int values = 0;
        for (Map.Entry<Integer, Boolean> entry : state.entrySet()) {
            have += 1 << entry.getKey();
            values += entry.getValue() ? 1 << entry.getKey() : 0;
        }
        return new Logged(have, values, bestOne == null ? NONE : bestCost);
    }
}
