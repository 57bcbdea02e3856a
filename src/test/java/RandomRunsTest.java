import java.util.Random;

/** Long runs of chosen calls, right and wrong ones, each answer compared with the oracle's. */
public final class RandomRunsTest {
    private static final int OBJECTS = 2000;
    private static final int CALLS = 512;

    private final Check check;
    private final Random random;
    private final WeightedClauses mine;
    private final Oracle oracle;
    private final int variables;
    private final int hardPercent;
    private final int weightLimit;
    private final int name;
    private int calls;

    public static void main(String[] args) {
        Check check = new Check();
        for (int seed = 0; seed < OBJECTS; seed++) {
            new RandomRunsTest(check, seed).run();
        }
        check.finish();
    }

    private RandomRunsTest(Check check, int seed) {
        this.check = check;
        name = seed;
        random = new Random(seed);
        int n = random.nextInt(14) - 1;
        mine = new WeightedClauses(n);
        oracle = new Oracle(n);
        variables = oracle.variables();
        hardPercent = random.nextInt(4) * 20;
        weightLimit = random.nextBoolean() ? 5 : 1000000;
    }

    private void run() {
        int clausesFirst = random.nextInt(45);
        for (int i = 0; i < clausesFirst; i++) {
            addClause();
        }
        while (calls < CALLS) {
            someCall();
        }
    }

    private void same(String call, Check.Call a, Check.Call b) {
        // What later calls answer is free.
        if (calls == CALLS) {
            return;
        }
        calls++;
        check.dueText("object " + name + ": " + call, Check.told(a), Check.told(b));
    }

    private void addClause() {
        int[] four = {-1, -1, -1, -1};
        int size = 1 + random.nextInt(4);
        for (int i = 0; i < size; i++) {
            four[random.nextInt(4)] = random.nextInt(2 * variables);
        }
        if (random.nextInt(20) == 0) {
            four[random.nextInt(4)] = random.nextInt(30) - 5;
        }
        int weight = someWeight();
        same("clause(" + weight + ", " + java.util.Arrays.toString(four) + ")",
                () -> mine.clause(weight, four[0], four[1], four[2], four[3]),
                () -> oracle.clause(weight, four[0], four[1], four[2], four[3]));
    }

    private int someWeight() {
        if (random.nextInt(30) == 0) {
            return random.nextBoolean() ? -1 : 1000001;
        }
        return random.nextInt(100) < hardPercent ? 0 : 1 + random.nextInt(weightLimit);
    }

    private void someCall() {
        int kind = random.nextInt(100);
        if (kind < 20) {
            addClause();
        } else if (kind < 30) {
            same("drop()", mine::drop, oracle::drop);
        } else if (kind < 37) {
            int k = random.nextInt(oracle.clauses() + 2) - 1;
            int weight = someWeight();
            same("weigh(" + k + ", " + weight + ")", () -> mine.weigh(k, weight), () -> oracle.weigh(k, weight));
        } else if (kind < 75) {
            askOfAState();
        } else if (kind < 78) {
            same("solve()", mine::solve, oracle::solve);
            askAllOfTheSearch();
        } else {
            askSomeOfTheSearch();
        }
    }

    private void askOfAState() {
        int all = (1 << variables) - 1;
        int noise = random.nextInt(20) == 0 ? 1 << random.nextInt(32) : 0;
        int have = (random.nextInt() & random.nextInt() & all) ^ noise;
        int noiseOfValues = random.nextInt(20) == 0 ? 1 << random.nextInt(12) : 0;
        int values = (random.nextInt() & have) | noiseOfValues;
        String state = have + ", " + values;
        same("cost(" + state + ")", () -> mine.cost(have, values), () -> oracle.cost(have, values));
        same("bound(" + state + ")", () -> mine.bound(have, values), () -> oracle.bound(have, values));
        same("first(" + state + ")", () -> mine.first(have, values), () -> oracle.first(have, values));
        for (int j = -1; j < 6; j++) {
            int number = j;
            same("subset(" + state + ", " + j + ")",
                    () -> mine.subset(have, values, number), () -> oracle.subset(have, values, number));
        }
    }

    private void askAllOfTheSearch() {
        for (int v = -1; v <= variables; v++) {
            askValue(v);
        }
        for (int k = -1; k <= oracle.logged(); k++) {
            askLog(k, 0);
            askLog(k, 1);
            askBest(k);
        }
        askCounts();
    }

    private void askSomeOfTheSearch() {
        askValue(random.nextInt(14) - 2);
        askLog(random.nextInt(8) - 1, random.nextInt(5) - 1);
        askBest(random.nextInt(8) - 1);
        askCounts();
    }

    private void askCounts() {
        same("variables()", mine::variables, oracle::variables);
        same("clauses()", mine::clauses, oracle::clauses);
        same("nodes()", mine::nodes, oracle::nodes);
        same("logged()", mine::logged, oracle::logged);
    }

    private void askValue(int v) {
        same("value(" + v + ")", () -> mine.value(v), () -> oracle.value(v));
    }

    private void askLog(int k, int what) {
        same("log(" + k + ", " + what + ")", () -> mine.log(k, what), () -> oracle.log(k, what));
    }

    private void askBest(int k) {
        same("best(" + k + ")", () -> mine.best(k), () -> oracle.best(k));
    }
}
