import java.util.StringJoiner;

/** Objects that several tests begin with, and all that an object tells. */
final class Examples {
    private Examples() {
    }

    /** A clause with these literals at the first places; the weight 0 makes it hard. */
    static int add(WeightedClauses x, int weight, int... literals) {
        int[] four = {-1, -1, -1, -1};
        System.arraycopy(literals, 0, four, 0, literals.length);
        return x.clause(weight, four[0], four[1], four[2], four[3]);
    }

    /** Each row is a clause: its weight and then its literals. */
    static WeightedClauses with(int n, int[]... rows) {
        WeightedClauses x = new WeightedClauses(n);
        for (int[] row : rows) {
            add(x, row[0], java.util.Arrays.copyOfRange(row, 1, row.length));
        }
        return x;
    }

    static int[] soft(int weight, int... literals) {
        int[] row = new int[literals.length + 1];
        row[0] = weight;
        System.arraycopy(literals, 0, row, 1, literals.length);
        return row;
    }

    static int[] hard(int... literals) {
        return soft(0, literals);
    }

    /** Forty clauses that each say the same of variable 0. */
    static WeightedClauses full(int n, int weight) {
        WeightedClauses x = new WeightedClauses(n);
        for (int k = 0; k < 40; k++) {
            add(x, weight, 0);
        }
        return x;
    }

    /** Cost 4 whatever x0 is; the state with x0 false is given up, as its bound is no better. */
    static WeightedClauses twoVariables() {
        return with(2, soft(4, 0), soft(4, 1), soft(1, 2));
    }

    /** With x0 true the hard clauses contradict each other, and no best one is there yet. */
    static WeightedClauses hopelessBranch() {
        return with(2, hard(1, 2), hard(1, 3), soft(7, 0), soft(1, 0, 2));
    }

    /** The two hard clauses contradict each other at once. */
    static WeightedClauses contradiction(int n) {
        return with(n, hard(0), hard(1));
    }

    /** All that is told of the last search; for logs with few nodes. */
    static String found(WeightedClauses x) {
        StringJoiner told = new StringJoiner(" ");
        told.add("values");
        for (int v = 0; v < x.variables(); v++) {
            told.add(Long.toString(x.value(v)));
        }
        told.add("nodes").add(Integer.toString(x.nodes()));
        told.add("logged").add(Integer.toString(x.logged()));
        for (int k = 0; k <= x.logged(); k++) {
            told.add(x.log(k, 0) + "/" + x.log(k, 1) + "/" + x.best(k));
        }
        return told.toString();
    }

    /** All that is told of the clauses, by all states; for few variables. */
    static String ofAllStates(WeightedClauses x) {
        StringJoiner told = new StringJoiner(" ");
        told.add("variables").add(Integer.toString(x.variables()));
        told.add("clauses").add(Integer.toString(x.clauses()));
        for (int have = 0; have < 1 << x.variables(); have++) {
            for (int values = 0; values <= have; values++) {
                if ((values & ~have) == 0) {
                    told.add(x.cost(have, values) + "/" + x.bound(have, values) + "/" + x.first(have, values)
                            + "/" + x.subset(have, values, 0) + "/" + x.subset(have, values, 1));
                }
            }
        }
        return told.toString();
    }
}
