/** The sentences of promises 1 to 6 and of the terms that name a boundary case of variables and clauses. */
public final class ClauseBoundaryTest {
    private static final Check CHECK = new Check();

    public static void main(String[] args) {
        nearestCountOfVariables();
        newObjectHasNoClauses();
        variablesStay();
        literalsOfTheLastVariable();
        oneToFourLiterals();
        hardAndSoftWeights();
        numberedAsTheyCome();
        fortyAtMost();
        absentLiterals();
        weightOutOfRange();
        neitherAbsentNorALiteral();
        allAbsent();
        twoOfOneVariable();
        thereAreForty();
        greatestNumberGoes();
        howManyAreLeft();
        dropWithoutClauses();
        weightZeroIsHard();
        theWeightThatItHas();
        theOneThatItHad();
        noSuchClause();
        weighOutOfRange();
        howManyClauses();
        CHECK.finish();
    }

    private static void due(String what, long got, long want) {
        CHECK.due(what, got, want);
    }

    private static void nearestCountOfVariables() {
        CHECK.about("n variables, or the nearest of 1 .. 10");
        int[] asked = {Integer.MIN_VALUE, -10, -1, 0, 1, 2, 9, 10, 11, 12, 32, Integer.MAX_VALUE};
        int[] given = {1, 1, 1, 1, 1, 2, 9, 10, 10, 10, 10, 10};
        for (int i = 0; i < asked.length; i++) {
            WeightedClauses x = new WeightedClauses(asked[i]);
            int n = given[i];
            due("variables() of " + asked[i], x.variables(), n);
            due("the last variable of " + asked[i], x.clause(1, 2 * n - 1, -1, -1, -1), 0);
            CHECK.illegalArgument("no variable more of " + asked[i], () -> x.clause(1, 2 * n, -1, -1, -1));
        }
    }

    private static void newObjectHasNoClauses() {
        CHECK.about("no clauses.");
        for (int n = 0; n <= 11; n++) {
            WeightedClauses x = new WeightedClauses(n);
            due("clauses()", x.clauses(), 0);
            due("the first one's number", x.clause(0, 0, -1, -1, -1), 0);
        }
    }

    private static void variablesStay() {
        CHECK.about("How many variables there are.");
        WeightedClauses x = Examples.full(1, 5);
        due("with all clauses", x.variables(), 1);
        x.solve();
        due("after a search", x.variables(), 1);
        for (int i = 0; i < 41; i++) {
            x.drop();
        }
        due("with none again", x.variables(), 1);
    }

    private static void literalsOfTheLastVariable() {
        CHECK.about("A LITERAL 2 v says that variable v is true, 2 v + 1 that it is false.");
        for (int n = 1; n <= 10; n++) {
            int last = 1 << (n - 1);
            WeightedClauses x = Examples.with(n, Examples.soft(3, 2 * n - 2), Examples.soft(5, 2 * n - 1));
            due("last of " + n + " is true", x.cost(last, last), 5);
            due("last of " + n + " is false", x.cost(last, 0), 3);
        }
    }

    private static void oneToFourLiterals() {
        CHECK.about("A CLAUSE has one to four literals, of different variables");
        for (int places = 1; places < 16; places++) {
            WeightedClauses x = new WeightedClauses(4);
            int a = (places & 1) != 0 ? 0 : -1;
            int b = (places & 2) != 0 ? 2 : -1;
            int c = (places & 4) != 0 ? 4 : -1;
            int d = (places & 8) != 0 ? 6 : -1;
            due("literals at places " + places, x.clause(7, a, b, c, d), 0);
            due("it is false by just these " + places, x.cost(places, 0), 7);
            due("it is open without them " + places, x.cost(15 & ~places, 0), 0);
            for (int v = 0; v < 4; v++) {
                boolean has = (places >> v & 1) != 0;
                due("variable " + v + " counts in " + places, x.cost(15, 1 << v), has ? 0 : 7);
            }
        }
    }

    private static void hardAndSoftWeights() {
        CHECK.about("is HARD (weight 0), or SOFT with a WEIGHT 1 .. 1000000");
        int[] weights = {0, 1, 2, 999999, 1000000};
        for (int weight : weights) {
            WeightedClauses x = Examples.with(1, Examples.soft(weight, 0));
            due("the weight " + weight, x.cost(1, 0), weight == 0 ? -2 : weight);
        }
    }

    private static void numberedAsTheyCome() {
        CHECK.about("clauses are numbered from 0 as they come, 40 at most.");
        WeightedClauses x = new WeightedClauses(2);
        for (int k = 0; k < 40; k++) {
            due("number", Examples.add(x, k + 1, k % 4), k);
        }
        for (int k = 0; k < 40; k++) {
            due("the weight of number " + k, x.weigh(k, 1), k + 1);
        }
    }

    private static void fortyAtMost() {
        CHECK.about("40 at most.");
        WeightedClauses x = Examples.full(1, 1000000);
        due("all of the forty count", x.cost(1, 0), 40000000L);
        due("as a bound too", x.bound(1, 0), 40000000L);
        CHECK.illegalState("one more", () -> x.clause(1, 0, -1, -1, -1));
        due("no more than forty count", x.cost(1, 0), 40000000L);
    }

    private static void absentLiterals() {
        CHECK.about("Literals that it has not are -1.");
        WeightedClauses x = new WeightedClauses(1);
        due("first place", x.clause(1, 0, -1, -1, -1), 0);
        due("second place", x.clause(10, -1, 0, -1, -1), 1);
        due("third place", x.clause(100, -1, -1, 0, -1), 2);
        due("fourth place", x.clause(1000, -1, -1, -1, 0), 3);
        due("nothing but these literals", x.cost(1, 0), 1111);
        due("they are true", x.cost(1, 1), 0);
    }

    private static void weightOutOfRange() {
        CHECK.about("the weight is not 0 .. 1000000, one of the four");
        WeightedClauses x = new WeightedClauses(2);
        int[] wrong = {-1, -2, 1000001, Integer.MIN_VALUE, Integer.MAX_VALUE};
        for (int weight : wrong) {
            CHECK.illegalArgument("weight " + weight, () -> x.clause(weight, 0, -1, -1, -1));
        }
        due("the least weight", x.clause(0, 0, -1, -1, -1), 0);
        due("the greatest weight", x.clause(1000000, 0, -1, -1, -1), 1);
    }

    private static void neitherAbsentNorALiteral() {
        CHECK.about("one of the four is neither -1 nor a literal");
        for (int n = 1; n <= 10; n++) {
            WeightedClauses x = new WeightedClauses(n);
            int[] wrong = {2 * n, 2 * n + 1, -2, -3, 20, 32, 64, Integer.MIN_VALUE, Integer.MAX_VALUE};
            for (int literal : wrong) {
                String what = literal + " with " + n + " variables at place ";
                CHECK.illegalArgument(what + "a", () -> x.clause(1, literal, 0, -1, -1));
                CHECK.illegalArgument(what + "b", () -> x.clause(1, 0, literal, -1, -1));
                CHECK.illegalArgument(what + "c", () -> x.clause(1, -1, 0, literal, -1));
                CHECK.illegalArgument(what + "d", () -> x.clause(1, -1, -1, 0, literal));
                CHECK.illegalArgument(what + "a alone", () -> x.clause(1, literal, -1, -1, -1));
            }
            due("no clause came", x.clauses(), 0);
            due("the least literal", x.clause(1, -1, 0, -1, -1), 0);
            due("the greatest literal", x.clause(1, -1, -1, -1, 2 * n - 1), 1);
        }
    }

    private static void allAbsent() {
        CHECK.about("all are -1");
        int[] weights = {0, 1, 1000000};
        for (int weight : weights) {
            WeightedClauses x = new WeightedClauses(10);
            CHECK.illegalArgument("weight " + weight, () -> x.clause(weight, -1, -1, -1, -1));
            due("no clause came", x.clauses(), 0);
        }
    }

    private static void twoOfOneVariable() {
        CHECK.about("two are of one variable");
        WeightedClauses x = new WeightedClauses(10);
        int[] variables = {0, 1, 9};
        for (int i = 0; i < 4; i++) {
            for (int j = i + 1; j < 4; j++) {
                for (int v : variables) {
                    for (int signs = 0; signs < 4; signs++) {
                        refuseTwo(x, i, 2 * v + (signs & 1), j, 2 * v + (signs >> 1));
                    }
                }
            }
        }
        due("no clause came", x.clauses(), 0);
        CHECK.illegalArgument("all four", () -> x.clause(1, 4, 4, 4, 4));
        CHECK.illegalArgument("two times two", () -> x.clause(1, 4, 6, 5, 7));
        due("neighbours are different variables", x.clause(1, 1, 2, 5, 6), 0);
    }

    private static void refuseTwo(WeightedClauses x, int i, int first, int j, int second) {
        int[] alone = {-1, -1, -1, -1};
        int[] among = {6, 8, 10, 12};
        alone[i] = first;
        alone[j] = second;
        among[i] = first;
        among[j] = second;
        CHECK.illegalArgument("clause of " + java.util.Arrays.toString(alone),
                () -> x.clause(1, alone[0], alone[1], alone[2], alone[3]));
        CHECK.illegalArgument("clause of " + java.util.Arrays.toString(among),
                () -> x.clause(0, among[0], among[1], among[2], among[3]));
    }

    private static void thereAreForty() {
        CHECK.about("IllegalStateException: there are 40.");
        WeightedClauses x = new WeightedClauses(10);
        for (int k = 0; k < 39; k++) {
            Examples.add(x, 1, 0);
        }
        due("the 40th", x.clause(1, 19, -1, -1, -1), 39);
        CHECK.illegalState("a soft 41st", () -> x.clause(1, 0, -1, -1, -1));
        CHECK.illegalState("a hard 41st", () -> x.clause(0, 0, 2, 4, 6));
        CHECK.illegalArgument("what is wrong by itself", () -> x.clause(1000001, 0, -1, -1, -1));
        CHECK.illegalArgument("what is no clause by itself", () -> x.clause(1, -1, -1, -1, -1));
        due("there are 40", x.clauses(), 40);
        due("one goes", x.drop(), 39);
        due("one comes", x.clause(2, 0, -1, -1, -1), 39);
        CHECK.illegalState("full again", () -> x.clause(1, 0, -1, -1, -1));
    }

    private static void greatestNumberGoes() {
        CHECK.about("The clause with the greatest number goes.");
        WeightedClauses x = new WeightedClauses(1);
        for (int k = 0; k < 20; k++) {
            Examples.add(x, 1 << k % 19, 0);
        }
        long left = x.cost(1, 0);
        for (int k = 19; k >= 0; k--) {
            x.drop();
            left -= 1 << k % 19;
            due("number " + k + " went", x.cost(1, 0), left);
        }
        due("nothing costs", x.cost(1, 0), 0);
    }

    private static void howManyAreLeft() {
        CHECK.about("Answers how many are left");
        WeightedClauses x = Examples.full(1, 1);
        for (int left = 39; left >= 0; left--) {
            due("left", x.drop(), left);
            due("clauses()", x.clauses(), left);
        }
    }

    private static void dropWithoutClauses() {
        CHECK.about("NONE when there was none.");
        WeightedClauses x = new WeightedClauses(3);
        due("new", x.drop(), -1);
        due("again", x.drop(), -1);
        due("still no clauses", x.clauses(), 0);
        due("the next number is 0", x.clause(1, 0, -1, -1, -1), 0);
        due("the last one goes: 0 are left", x.drop(), 0);
        due("there was none", x.drop(), -1);
        due("the next number is 0 again", x.clause(1, 0, -1, -1, -1), 0);
    }

    private static void weightZeroIsHard() {
        CHECK.about("A clause gets a weight (0: it is hard)");
        WeightedClauses x = Examples.with(1, Examples.soft(5, 0));
        x.weigh(0, 0);
        due("hard: cost", x.cost(1, 0), -2);
        due("hard: bound", x.bound(1, 0), -2);
        x.weigh(0, 1);
        due("the least weight of a soft one", x.cost(1, 0), 1);
        x.weigh(0, 1000000);
        due("the greatest weight", x.cost(1, 0), 1000000);
    }

    private static void theWeightThatItHas() {
        CHECK.about("also that which it has (what was found ends then, too)");
        int[] weights = {0, 4, 1000000};
        for (int weight : weights) {
            WeightedClauses x = Examples.with(1, Examples.soft(weight, 0));
            due("a search", x.solve(), 0);
            due("it went to nodes", x.nodes(), 3);
            due("the same weight " + weight, x.weigh(0, weight), weight);
            CHECK.dueText("nothing is found any more", Examples.found(x), "values -1 nodes 0 logged 0 -1/-1/-1");
            due("it has the weight still", x.cost(1, 0), weight == 0 ? -2 : weight);
        }
    }

    private static void theOneThatItHad() {
        CHECK.about("the one that it had.");
        WeightedClauses x = Examples.full(1, 1000000);
        due("the first", x.weigh(0, 0), 1000000);
        due("the first, hard", x.weigh(0, 1), 0);
        due("the first, soft", x.weigh(0, 1), 1);
        due("the last", x.weigh(39, 7), 1000000);
        due("the last again", x.weigh(39, 8), 7);
        due("only these changed", x.cost(1, 0), 38000009L);
    }

    private static void noSuchClause() {
        CHECK.about("there is no such clause");
        int[] counts = {0, 1, 2, 39, 40};
        for (int count : counts) {
            WeightedClauses x = Examples.full(1, 3);
            while (x.clauses() > count) {
                x.drop();
            }
            int[] wrong = {-1, count, count + 1, 40, 64, Integer.MIN_VALUE, Integer.MAX_VALUE};
            for (int k : wrong) {
                CHECK.illegalArgument("number " + k + " of " + count, () -> x.weigh(k, 1));
            }
            if (count > 0) {
                due("the last of " + count, x.weigh(count - 1, 1), 3);
            }
        }
    }

    private static void weighOutOfRange() {
        CHECK.about("or the weight is not 0 .. 1000000.");
        WeightedClauses x = Examples.with(1, Examples.soft(3, 0));
        int[] wrong = {-1, 1000001, Integer.MIN_VALUE, Integer.MAX_VALUE};
        for (int weight : wrong) {
            CHECK.illegalArgument("weight " + weight, () -> x.weigh(0, weight));
            CHECK.illegalArgument("weight " + weight + " of no clause", () -> x.weigh(1, weight));
        }
        due("it has its weight", x.weigh(0, 1000000), 3);
        due("the greatest", x.weigh(0, 0), 1000000);
        due("the least", x.weigh(0, 0), 0);
    }

    private static void howManyClauses() {
        CHECK.about("How many clauses there are.");
        WeightedClauses x = new WeightedClauses(1);
        for (int k = 0; k < 40; k++) {
            due("before " + k, x.clauses(), k);
            Examples.add(x, k % 2, k % 2);
        }
        due("all", x.clauses(), 40);
        Check.told(() -> x.clause(1, 0, -1, -1, -1));
        due("no more", x.clauses(), 40);
    }
}
