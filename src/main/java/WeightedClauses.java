/** Clauses with weights, the cheapest truth values for them, and a log of where the search gave up. */
public final class WeightedClauses {
    public static final int NONE = -1;
    public static final int HOPELESS = -2;

    private static final int MAX_VARIABLES = 10;
    private static final int MAX_CLAUSES = 40;
    private static final int MAX_WEIGHT = 1000000;
    private static final int ABSENT = -1;

    private final Formula formula;
    private final Bounds bounds;
    private final Search search;

    public WeightedClauses(int n) {
        formula = new Formula(Math.max(1, Math.min(MAX_VARIABLES, n)));
        bounds = new Bounds(formula);
        search = new Search(formula, bounds);
    }

    public int variables() {
        return formula.variableCount;
    }

    public int clause(int weight, int a, int b, int c, int d)
            throws IllegalArgumentException, IllegalStateException {
        if (!isWeight(weight) || !areLiterals(a, b, c, d)) {
            throw new IllegalArgumentException();
        }
        if (formula.clauseCount >= MAX_CLAUSES) {
            throw new IllegalStateException();
        }
        search.forget();
        int makesTrue = bitIfTrue(a) | bitIfTrue(b) | bitIfTrue(c) | bitIfTrue(d);
        int makesFalse = bitIfFalse(a) | bitIfFalse(b) | bitIfFalse(c) | bitIfFalse(d);
        return formula.add(weight, makesTrue, makesFalse);
    }

    public int drop() {
        if (formula.clauseCount == 0) {
            return NONE;
        }
        search.forget();
        return formula.removeLast();
    }

    public int weigh(int k, int weight) throws IllegalArgumentException {
        if (k < 0 || k >= formula.clauseCount || !isWeight(weight)) {
            throw new IllegalArgumentException();
        }
        search.forget();
        return formula.replaceWeight(k, weight);
    }

    public int clauses() {
        return formula.clauseCount;
    }

    public long cost(int have, int values) throws IllegalArgumentException {
        if (!isState(have, values)) {
            throw new IllegalArgumentException();
        }
        return formula.costOf(have, values);
    }

    public long bound(int have, int values) throws IllegalArgumentException {
        if (!isState(have, values)) {
            throw new IllegalArgumentException();
        }
        return bounds.boundOf(have, values);
    }

    public long subset(int have, int values, int j) throws IllegalArgumentException {
        if (!isState(have, values)) {
            throw new IllegalArgumentException();
        }
        bounds.boundOf(have, values);
        return bounds.subsetAt(j);
    }

    public int first(int have, int values) throws IllegalArgumentException {
        if (!isState(have, values)) {
            throw new IllegalArgumentException();
        }
        return formula.firstLiteral(have, values);
    }

    public long solve() {
        search.run();
        return search.hasBest() ? search.bestCost : HOPELESS;
    }

    public int value(int v) {
        if (v < 0 || v >= formula.variableCount || !search.hasBest()) {
            return NONE;
        }
        return search.bestValues >> v & 1;
    }

    public int nodes() {
        return search.nodeCount;
    }

    public int logged() {
        return search.logCount;
    }

    public int log(int k, int what) {
        if (!search.isLogged(k)) {
            return NONE;
        }
        switch (what) {
            case 0:
                return search.logHave[k];
            case 1:
                return search.logValues[k];
            default:
                return NONE;
        }
    }

    public long best(int k) {
        return search.isLogged(k) ? search.logBest[k] : NONE;
    }

    private static boolean isWeight(int weight) {
        return weight >= 0 && weight <= MAX_WEIGHT;
    }

    private boolean isState(int have, int values) {
        return (have & ~formula.allVariables) == 0 && (values & ~have) == 0;
    }

    private boolean areLiterals(int a, int b, int c, int d) {
        if (!isLiteralOrAbsent(a) || !isLiteralOrAbsent(b) || !isLiteralOrAbsent(c) || !isLiteralOrAbsent(d)) {
            return false;
        }
        int present = countIfPresent(a) + countIfPresent(b) + countIfPresent(c) + countIfPresent(d);
        int used = variableBit(a) | variableBit(b) | variableBit(c) | variableBit(d);
        // Two literals of one variable share a bit, so fewer bits than literals tells of them.
        return present > 0 && Integer.bitCount(used) == present;
    }

    private boolean isLiteralOrAbsent(int literal) {
        return literal >= ABSENT && literal < 2 * formula.variableCount;
    }

    private static int countIfPresent(int literal) {
        return literal == ABSENT ? 0 : 1;
    }

    private static int variableBit(int literal) {
        return bitIfTrue(literal) | bitIfFalse(literal);
    }

    private static int bitIfTrue(int literal) {
        return literal == ABSENT || (literal & 1) == 1 ? 0 : 1 << (literal >> 1);
    }

    private static int bitIfFalse(int literal) {
        return literal == ABSENT || (literal & 1) == 0 ? 0 : 1 << (literal >> 1);
    }

    /** The variables and clauses, and what can be told of one state without looking further. */
    private static final class Formula {
        final int variableCount;
        final int allVariables;
        int clauseCount;
        private final int[] makesTrue = new int[MAX_CLAUSES];
        private final int[] makesFalse = new int[MAX_CLAUSES];
        private final int[] weights = new int[MAX_CLAUSES];

        Formula(int variableCount) {
            this.variableCount = variableCount;
            this.allVariables = (1 << variableCount) - 1;
        }

        int add(int weight, int trueBits, int falseBits) {
            int k = clauseCount;
            if (k >= MAX_CLAUSES) {
                return NONE;
            }
            weights[k] = weight;
            makesTrue[k] = trueBits;
            makesFalse[k] = falseBits;
            clauseCount = k + 1;
            return k;
        }

        int removeLast() {
            clauseCount = Math.max(0, clauseCount - 1);
            return clauseCount;
        }

        int replaceWeight(int k, int weight) {
            int before = weights[k];
            weights[k] = weight;
            return before;
        }

        int variablesOf(int k) {
            return makesTrue[k] | makesFalse[k];
        }

        int withoutValue(int k, int have) {
            return (makesTrue[k] | makesFalse[k]) & ~have;
        }

        int literalsSayingTrue(int k) {
            return makesTrue[k];
        }

        boolean isTrue(int k, int have, int values) {
            return (makesTrue[k] & values) != 0 || (makesFalse[k] & have & ~values) != 0;
        }

        boolean isFalse(int k, int have, int values) {
            int used = makesTrue[k] | makesFalse[k];
            // Just those of its variables are true then whose literals say false.
            return (used & ~have) == 0 && (used & values) == makesFalse[k];
        }

        long openClauses(int have, int values) {
            long open = 0;
            for (int k = 0; k < clauseCount; k++) {
                if (withoutValue(k, have) != 0 && !isTrue(k, have, values)) {
                    open |= 1L << k;
                }
            }
            return open;
        }

        long costOf(int have, int values) {
            long total = 0;
            for (int k = 0; k < clauseCount; k++) {
                if (isFalse(k, have, values)) {
                    if (weights[k] == 0) {
                        return HOPELESS;
                    }
                    total += weights[k];
                }
            }
            return total;
        }

        /** 0 when all of these clauses are hard: no soft clause weighs 0. */
        int lightestWeight(long someClauses) {
            int lightest = 0;
            for (int k = 0; k < clauseCount; k++) {
                boolean soft = (someClauses >> k & 1) != 0 && weights[k] != 0;
                if (soft && (lightest == 0 || weights[k] < lightest)) {
                    lightest = weights[k];
                }
            }
            return lightest;
        }

        int firstLiteral(int have, int values) {
            long open = openClauses(have, values);
            int literal = NONE;
            int most = -1;
            for (int v = 0; v < variableCount; v++) {
                int sayTrue = countHolding(makesTrue, v, open);
                int sayFalse = countHolding(makesFalse, v, open);
                if ((have >> v & 1) == 0 && sayTrue + sayFalse > most) {
                    most = sayTrue + sayFalse;
                    literal = sayFalse > sayTrue ? 2 * v + 1 : 2 * v;
                }
            }
            return literal;
        }

        private int countHolding(int[] variableBits, int v, long someClauses) {
            int count = 0;
            for (int k = 0; k < clauseCount; k++) {
                if ((someClauses >> k & 1) != 0 && (variableBits[k] >> v & 1) != 0) {
                    count++;
                }
            }
            return count;
        }
    }

    /** Finds the bound of a state, and keeps the subsets that it found on the way. */
    private static final class Bounds {
        private final Formula formula;
        // Every subset takes a clause away, so there are never more of them than clauses.
        private final long[] subsets = new long[MAX_CLAUSES];
        private int subsetCount;
        private long available;
        private int grownHave;
        private int grownValues;
        private final int[] stepVariable = new int[MAX_VARIABLES];
        private final int[] stepReason = new int[MAX_VARIABLES];
        private int stepCount;

        Bounds(Formula formula) {
            this.formula = formula;
        }

        long boundOf(int have, int values) {
            subsetCount = 0;
            long total = formula.costOf(have, values);
            if (total == HOPELESS) {
                return HOPELESS;
            }
            available = formula.openClauses(have, values);
            for (int round = 0; round < MAX_CLAUSES; round++) {
                long found = nextSubset(have, values);
                if (found == 0) {
                    return total;
                }
                subsets[round] = found;
                subsetCount = round + 1;
                int weight = formula.lightestWeight(found);
                if (weight == 0) {
                    return HOPELESS;
                }
                total += weight;
                available &= ~found;
            }
            return total;
        }

        long subsetAt(int j) {
            return j >= 0 && j < subsetCount ? subsets[j] : 0;
        }

        private long nextSubset(int have, int values) {
            grownHave = have;
            grownValues = values;
            stepCount = 0;
            // Each turn but the last gives a value to one more variable.
            for (int turn = 0; turn <= MAX_VARIABLES; turn++) {
                int broken = firstFalseClause();
                if (broken != NONE) {
                    return subsetBehind(broken);
                }
                int unit = firstUnitClause();
                if (unit == NONE) {
                    return 0;
                }
                growBy(unit);
            }
            return 0;
        }

        private boolean isAvailable(int k) {
            return (available >> k & 1) != 0;
        }

        private int firstFalseClause() {
            for (int k = 0; k < formula.clauseCount; k++) {
                if (isAvailable(k) && formula.isFalse(k, grownHave, grownValues)) {
                    return k;
                }
            }
            return NONE;
        }

        private int firstUnitClause() {
            for (int k = 0; k < formula.clauseCount; k++) {
                boolean oneLeft = Integer.bitCount(formula.withoutValue(k, grownHave)) == 1;
                if (oneLeft && isAvailable(k) && !formula.isTrue(k, grownHave, grownValues)) {
                    return k;
                }
            }
            return NONE;
        }

        private void growBy(int unit) {
            if (stepCount >= MAX_VARIABLES) {
                return;
            }
            int variable = formula.withoutValue(unit, grownHave);
            grownHave |= variable;
            grownValues |= variable & formula.literalsSayingTrue(unit);
            stepVariable[stepCount] = variable;
            stepReason[stepCount] = unit;
            stepCount++;
        }

        private long subsetBehind(int broken) {
            long found = 1L << broken;
            int involved = formula.variablesOf(broken);
            // A reason's other variables had their values before it, so one way back meets all reasons.
            for (int step = stepCount - 1; step >= 0; step--) {
                if ((involved & stepVariable[step]) != 0) {
                    found |= 1L << stepReason[step];
                    involved |= formula.variablesOf(stepReason[step]);
                }
            }
            return found;
        }
    }

    /** The search, the best that it found and the log of where it gave up. */
    private static final class Search {
        // A tree that branches once for each variable has fewer nodes than this.
        private static final int MAX_NODES = 1 << (MAX_VARIABLES + 1);

        int nodeCount;
        int logCount;
        long bestCost = NONE;
        int bestValues;
        final int[] logHave;
        final int[] logValues;
        final long[] logBest;
        private final Formula formula;
        private final Bounds bounds;
        // Of each level at most one node waits, but for the deepest, where both may.
        private final int[] waitingHave = new int[MAX_VARIABLES + 1];
        private final int[] waitingValues = new int[MAX_VARIABLES + 1];
        private int waitingCount;

        Search(Formula formula, Bounds bounds) {
            this.formula = formula;
            this.bounds = bounds;
            // A logged node lacks a value, and none is below another: half of the states are enough.
            int logSize = 1 << (formula.variableCount - 1);
            logHave = new int[logSize];
            logValues = new int[logSize];
            logBest = new long[logSize];
        }

        void forget() {
            nodeCount = 0;
            logCount = 0;
            bestCost = NONE;
            bestValues = 0;
            waitingCount = 0;
        }

        void run() {
            forget();
            putWaiting(0, 0);
            for (int turn = 0; turn < MAX_NODES && waitingCount > 0; turn++) {
                waitingCount--;
                visit(waitingHave[waitingCount], waitingValues[waitingCount]);
            }
        }

        boolean hasBest() {
            return bestCost != NONE;
        }

        boolean isLogged(int k) {
            return k >= 0 && k < logCount;
        }

        private void putWaiting(int have, int values) {
            if (waitingCount < waitingHave.length) {
                waitingHave[waitingCount] = have;
                waitingValues[waitingCount] = values;
                waitingCount++;
            }
        }

        private void visit(int have, int values) {
            nodeCount++;
            if (have == formula.allVariables) {
                visitLeaf(values);
            } else if (isGivenUp(bounds.boundOf(have, values))) {
                putIntoLog(have, values);
            } else {
                branch(have, values);
            }
        }

        private void visitLeaf(int values) {
            long leafCost = formula.costOf(formula.allVariables, values);
            if (leafCost != HOPELESS && (!hasBest() || leafCost < bestCost)) {
                bestCost = leafCost;
                bestValues = values;
            }
        }

        private boolean isGivenUp(long boundHere) {
            return boundHere == HOPELESS || hasBest() && bestCost <= boundHere;
        }

        private void putIntoLog(int have, int values) {
            if (logCount < logHave.length) {
                logHave[logCount] = have;
                logValues[logCount] = values;
                logBest[logCount] = bestCost;
                logCount++;
            }
        }

        private void branch(int have, int values) {
            int literal = formula.firstLiteral(have, values);
            if (literal == NONE) {
                return;
            }
            int variable = 1 << (literal >> 1);
            int valuesIfTrue = values | variable;
            boolean trueFirst = (literal & 1) == 0;
            // The node that was put last is visited first, with all that comes from it.
            putWaiting(have | variable, trueFirst ? values : valuesIfTrue);
            putWaiting(have | variable, trueFirst ? valuesIfTrue : values);
        }
    }
}
