/** The sentences of promises 7 to 10 and of the terms that name a boundary case of a state. */
public final class StateBoundaryTest {
    private static final Check CHECK = new Check();

    public static void main(String[] args) {
        noOtherBits();
        thisIsNoStateOfCost();
        thisIsNoStateOfBound();
        thisIsNoStateOfSubset();
        thisIsNoStateOfFirst();
        trueFalseOrOpen();
        sumOfFalseSoftClauses();
        costHopeless();
        boundHopelessByAFalseClause();
        boundBeginsWithTheCost();
        openClausesAreAvailable();
        growsUntilOneIsFalse();
        justOneLiteralWithoutAValue();
        leastNumberMakesItsLiteralTrue();
        leastFalseNumberBegins();
        allReasons();
        lightestSoftClause();
        noSoftClauseInTheSubset();
        notAvailableAnyMore();
        lastRoundGivesNoSubset();
        boundOrHopeless();
        subsetsFromZero();
        subsetByWhichItIsHopeless();
        sumOfPowers();
        noSubset();
        firstOfANode();
        firstWhenAllHaveValues();
        CHECK.finish();
    }

    private static void due(String what, long got, long want) {
        CHECK.due(what, got, want);
    }

    private static int[] soft(int weight, int... literals) {
        return Examples.soft(weight, literals);
    }

    private static int[] hard(int... literals) {
        return Examples.hard(literals);
    }

    private static void noOtherBits() {
        CHECK.about("HAVE has bit v if v has a value, VALUES has bit v if it is true (no other bits).");
        for (int n = 1; n <= 10; n++) {
            int all = (1 << n) - 1;
            WeightedClauses x = Examples.with(n, soft(3, 0), soft(5, 1));
            due("no values, of " + n, x.cost(0, 0), 0);
            due("all false, of " + n, x.cost(all, 0), 3);
            due("all true, of " + n, x.cost(all, all), 5);
            for (int v = 0; v < n; v++) {
                int bit = 1 << v;
                due("one true, of " + n, x.cost(bit, bit), v == 0 ? 5 : 0);
                CHECK.illegalArgument("true without a value, of " + n, () -> x.cost(0, bit));
                CHECK.illegalArgument("true, and all but it have values, of " + n, () -> x.cost(all & ~bit, bit));
            }
            CHECK.illegalArgument("a variable too many has a value, of " + n, () -> x.cost(all + 1, 0));
            CHECK.illegalArgument("and is true, of " + n, () -> x.cost(all + 1, all + 1));
            CHECK.illegalArgument("it is true only, of " + n, () -> x.cost(all, all + 1));
        }
    }

    /** Pairs that are no state of three variables. */
    private static int[][] noStates() {
        return new int[][] {
            {8, 0}, {8, 8}, {15, 7}, {7, 8}, {7, 15}, {0, 1}, {0, 4}, {1, 2}, {5, 2}, {6, 7}, {3, 4},
            {-1, 0}, {-1, -1}, {7, -1}, {0, -1}, {-8, 0}, {1 << 10, 0}, {1 << 16, 0}, {0, 1 << 16},
            {Integer.MIN_VALUE, 0}, {Integer.MIN_VALUE, Integer.MIN_VALUE}, {7, Integer.MIN_VALUE},
            {Integer.MAX_VALUE, 0}, {Integer.MAX_VALUE, Integer.MAX_VALUE},
        };
    }

    private static WeightedClauses threeVariables() {
        return Examples.with(3, soft(5, 0), soft(3, 1, 2), hard(3));
    }

    private static void thisIsNoStateOfCost() {
        CHECK.about("HOPELESS when a hard clause is false under it. IllegalArgumentException: this is no state.");
        WeightedClauses x = threeVariables();
        for (int[] w : noStates()) {
            CHECK.illegalArgument("cost(" + w[0] + ", " + w[1] + ")", () -> x.cost(w[0], w[1]));
        }
        CHECK.illegalArgument("without clauses", () -> new WeightedClauses(3).cost(8, 0));
        due("the least state", x.cost(0, 0), 0);
        due("the greatest state", x.cost(7, 7), -2);
    }

    private static void thisIsNoStateOfBound() {
        CHECK.about("THE BOUND of a state, or HOPELESS. IllegalArgumentException: this is no state.");
        WeightedClauses x = threeVariables();
        for (int[] w : noStates()) {
            CHECK.illegalArgument("bound(" + w[0] + ", " + w[1] + ")", () -> x.bound(w[0], w[1]));
        }
        CHECK.illegalArgument("without clauses", () -> new WeightedClauses(3).bound(8, 0));
        due("the least state", x.bound(0, 0), 3);
        due("the greatest state", x.bound(7, 7), -2);
    }

    private static void thisIsNoStateOfSubset() {
        CHECK.about("0 when there is none. IllegalArgumentException: this is no state.");
        WeightedClauses x = threeVariables();
        int[] numbers = {0, 1, -1, 40, Integer.MIN_VALUE, Integer.MAX_VALUE};
        for (int[] w : noStates()) {
            for (int j : numbers) {
                CHECK.illegalArgument("subset(" + w[0] + ", " + w[1] + ", " + j + ")",
                        () -> x.subset(w[0], w[1], j));
            }
        }
        CHECK.illegalArgument("without clauses", () -> new WeightedClauses(3).subset(8, 0, 0));
        due("the least state", x.subset(0, 0, 0), 7);
        due("the greatest state", x.subset(7, 7, 0), 0);
    }

    private static void thisIsNoStateOfFirst() {
        CHECK.about("NONE when all variables have values. IllegalArgumentException: this is no state.");
        WeightedClauses x = threeVariables();
        for (int[] w : noStates()) {
            CHECK.illegalArgument("first(" + w[0] + ", " + w[1] + ")", () -> x.first(w[0], w[1]));
        }
        CHECK.illegalArgument("without clauses", () -> new WeightedClauses(3).first(8, 0));
        due("the least state", x.first(0, 0), 0);
        due("the greatest state", x.first(7, 7), -1);
    }

    private static void trueFalseOrOpen() {
        CHECK.about("a clause is TRUE if one of its literals is, FALSE if all are, otherwise OPEN.");
        WeightedClauses x = Examples.with(4, soft(9, 1, 3, 5, 7));
        due("open without values: it counts for first", x.first(0, 0), 1);
        due("three false, one without a value: no cost", x.cost(7, 7), 0);
        due("and it is open", x.first(7, 7), 7);
        due("all false", x.cost(15, 15), 9);
        for (int v = 0; v < 4; v++) {
            due("all but one false, and that one true", x.cost(15, 15 & ~(1 << v)), 0);
        }
        due("one true, the others without values: not open", x.first(8, 0), 0);
        due("one true, the others false: not open", x.first(14, 6), 0);
    }

    private static void sumOfFalseSoftClauses() {
        CHECK.about("THE COST of a state is the sum of the weights of soft clauses that are false under it.");
        due("no clauses", new WeightedClauses(10).cost(1023, 512), 0);
        WeightedClauses x = Examples.full(10, 1000000);
        due("all open", x.cost(1022, 1022), 0);
        due("all false", x.cost(1, 0), 40000000L);
        due("all true", x.cost(1, 1), 0);
        x.weigh(39, 1);
        due("the last one weighs 1", x.cost(1, 0), 39000001L);
    }

    private static void costHopeless() {
        CHECK.about("THE COST of a state; HOPELESS when a hard clause is false under it.");
        WeightedClauses last = Examples.with(2, soft(5, 0), soft(6, 2), hard(0, 2));
        due("the last one is hard and false", last.cost(3, 0), -2);
        due("the last one is hard and open", last.cost(1, 0), 5);
        due("the last one is hard and true", last.cost(3, 2), 5);
        WeightedClauses first = Examples.with(2, hard(0), soft(5, 0), soft(6, 2));
        due("the first one is hard and false", first.cost(3, 0), -2);
        due("the first one is hard and true", first.cost(3, 1), 6);
        WeightedClauses full = Examples.full(1, 0);
        due("all are hard and false", full.cost(1, 0), -2);
        due("all are hard and true", full.cost(1, 1), 0);
        due("no more than a contradiction is needed, but no clause is false yet",
                Examples.contradiction(1).cost(0, 0), 0);
    }

    private static void boundHopelessByAFalseClause() {
        CHECK.about("it is HOPELESS if a hard clause is false under it.");
        WeightedClauses x = Examples.with(2, soft(1, 2), soft(1, 3), hard(0));
        due("false", x.bound(1, 0), -2);
        due("no subset is looked for then", x.subset(1, 0, 0), 0);
        due("true", x.bound(1, 1), 1);
        due("open", x.bound(0, 0), 1);
    }

    private static void boundBeginsWithTheCost() {
        CHECK.about("Otherwise the bound is its cost at first");
        WeightedClauses x = Examples.with(2, soft(5, 0), soft(3, 2), soft(4, 3));
        due("the cost and a subset", x.bound(1, 0), 8);
        due("a subset alone", x.bound(1, 1), 3);
        due("the cost alone", x.bound(3, 0), 8);
        due("another cost alone", x.bound(3, 3), 4);
        due("no clauses", new WeightedClauses(1).bound(0, 0), 0);
    }

    private static void openClausesAreAvailable() {
        CHECK.about("the clauses that are open under it are AVAILABLE.");
        WeightedClauses x = Examples.with(2, soft(5, 0), soft(3, 2), soft(4, 3, 0), soft(2, 3, 1));
        due("a false one begins no subset", x.subset(1, 0, 0), 6);
        due("and there is no other", x.subset(1, 0, 1), 0);
        due("a true one is no reason", x.subset(1, 1, 0), 10);
        due("bound with the false one's cost", x.bound(1, 0), 8);
        due("bound with a true one instead", x.bound(1, 1), 2);
    }

    private static void growsUntilOneIsFalse() {
        CHECK.about("as long as no available clause is false under x and some available clause is open under x");
        // Clause 3 is false as soon as x0 is true; if x grew on by clause 0, clause 1 would be false as well.
        WeightedClauses x = Examples.with(2, soft(7, 1, 3), soft(6, 1, 2), soft(4, 0), soft(3, 1));
        due("it stops at once", x.subset(0, 0, 0), 12);
        due("the bound of it", x.bound(0, 0), 3);
        due("x grows to no clause's harm", Examples.with(10, soft(1, 0), soft(1, 1, 2), soft(1, 3, 4)).bound(0, 0), 0);
    }

    private static void justOneLiteralWithoutAValue() {
        CHECK.about("with just one literal without a value");
        WeightedClauses two = Examples.with(2, hard(0, 2), hard(0, 3), hard(1, 2), hard(1, 3));
        due("two without values: x does not grow", two.bound(0, 0), 0);
        due("so there is no subset", two.subset(0, 0, 0), 0);
        due("one without a value: x grows", two.bound(1, 0), -2);
        due("and there is a subset", two.subset(1, 0, 0), 3);
        due("the one without a value may be any of them", two.subset(2, 2, 0), 10);
    }

    private static void leastNumberMakesItsLiteralTrue() {
        CHECK.about("of these clauses the one with the least number makes its literal true");
        WeightedClauses a = Examples.with(1, soft(5, 0), soft(6, 1), soft(7, 0));
        due("clause 0 first, then clause 1 is false", a.subset(0, 0, 0), 3);
        WeightedClauses b = Examples.with(1, soft(6, 1), soft(7, 1), soft(5, 0));
        due("clause 0 first, then clause 2 is false", b.subset(0, 0, 0), 5);
        // After x1 (clause 2) the clauses 0 and 3 have one literal each; by clause 0, x0 becomes false.
        WeightedClauses c = Examples.with(2, soft(1, 1, 3), soft(1, 0, 3), soft(1, 2), soft(1, 0));
        due("a clause with a lower number that comes to it later is before those above", c.subset(0, 0, 0), 7);
    }

    private static void leastFalseNumberBegins() {
        CHECK.about("When an available clause is false under x then, that with the least number begins a SUBSET");
        WeightedClauses x = Examples.with(1, soft(1, 0), soft(9, 1), soft(8, 1), soft(7, 1));
        due("three are false, the least one begins", x.subset(0, 0, 0), 3);
        WeightedClauses high = new WeightedClauses(2);
        Examples.add(high, 1, 0);
        for (int k = 1; k < 39; k++) {
            Examples.add(high, 1, 0, 2);
        }
        Examples.add(high, 1, 1);
        due("the last of forty", high.subset(0, 0, 0), (1L << 39) + 1);
    }

    private static WeightedClauses chain(int n) {
        WeightedClauses x = new WeightedClauses(n);
        Examples.add(x, 50, 0);
        for (int v = 1; v < n; v++) {
            Examples.add(x, 50 - v, 2 * v - 1, 2 * v);
        }
        Examples.add(x, 50, 2 * n - 1);
        return x;
    }

    private static void allReasons() {
        CHECK.about("it is in it, and, for each clause in it, all reasons of variables that this clause has.");
        for (int n = 1; n <= 10; n++) {
            WeightedClauses x = chain(n);
            due("all variables grow, of " + n, x.subset(0, 0, 0), (1L << n + 1) - 1);
            due("the lightest of all, of " + n, x.bound(0, 0), 51 - n);
            due("no other subset, of " + n, x.subset(0, 0, 1), 0);
        }
        WeightedClauses apart = Examples.with(4, soft(1, 2), soft(5, 0), soft(1, 4, 3), soft(6, 1, 7), soft(9, 6));
        due("reasons of other variables stay out", apart.subset(0, 0, 0), 26);
        due("values of the state have no reason", apart.subset(8, 8, 0), 10);
    }

    private static void lightestSoftClause() {
        CHECK.about("The subset weighs as much as the lightest soft clause in it");
        int[][] weights = {{1, 2, 3, 1}, {3, 2, 1, 1}, {2, 1, 3, 1}, {0, 7, 8, 7}, {7, 0, 0, 7}, {0, 0, 7, 7},
            {1000000, 1000000, 1000000, 1000000}, {0, 1000000, 0, 1000000}};
        for (int[] w : weights) {
            WeightedClauses x = Examples.with(2, soft(w[0], 0), soft(w[1], 1, 2), soft(w[2], 3));
            due("of " + w[0] + ", " + w[1] + ", " + w[2], x.bound(0, 0), w[3]);
        }
    }

    private static void noSoftClauseInTheSubset() {
        CHECK.about("if there is none, the state is HOPELESS.");
        due("two hard ones", Examples.contradiction(1).bound(0, 0), -2);
        WeightedClauses x = Examples.with(2, hard(0), hard(1, 2), hard(3));
        due("three hard ones", x.bound(0, 0), -2);
        x.weigh(1, 1);
        due("one of them soft", x.bound(0, 0), 1);
        WeightedClauses beside = Examples.with(2, soft(3, 2), hard(0), hard(1));
        due("a soft reason that is not in it", beside.bound(0, 0), -2);
    }

    private static void notAvailableAnyMore() {
        CHECK.about("the clauses of the subset are not available any more");
        WeightedClauses x = Examples.with(1, soft(5, 0), soft(2, 1), soft(3, 1));
        due("clause 0 is spent", x.bound(0, 0), 2);
        due("so no second subset", x.subset(0, 0, 1), 0);
        Examples.add(x, 4, 0);
        due("another one is not", x.bound(0, 0), 5);
        due("the second subset", x.subset(0, 0, 1), 12);
        WeightedClauses hardOne = Examples.with(1, hard(0), soft(2, 1), soft(3, 1));
        due("a hard one is spent as well", hardOne.bound(0, 0), 2);
    }

    private static void lastRoundGivesNoSubset() {
        CHECK.about("(a round that ends so gives no subset)");
        WeightedClauses x = Examples.with(2, soft(5, 0), soft(2, 1), soft(3, 2));
        due("one subset", x.subset(0, 0, 0), 3);
        due("then a round in which x grows by clause 2 in vain", x.subset(0, 0, 1), 0);
        due("the same where no round gives one", x.subset(1, 1, 0), 0);
    }

    private static void boundOrHopeless() {
        CHECK.about("THE BOUND of a state, or HOPELESS.");
        WeightedClauses x = Examples.with(2, soft(1, 0), soft(2, 1), hard(2), hard(3));
        due("hopeless by the second subset", x.bound(0, 0), -2);
        due("hopeless by the first subset", x.bound(1, 1), -2);
        due("hopeless by a false clause", x.bound(3, 3), -2);
        WeightedClauses most = new WeightedClauses(1);
        for (int k = 0; k < 40; k++) {
            Examples.add(most, 1000000, k % 2);
        }
        due("twenty subsets", most.bound(0, 0), 20000000L);
        due("all values: the cost of twenty", most.bound(1, 1), 20000000L);
    }

    private static void subsetsFromZero() {
        CHECK.about("The subset number j (from 0) that is found for the bound of a state");
        WeightedClauses x = new WeightedClauses(10);
        for (int v = 0; v < 10; v++) {
            Examples.add(x, v + 1, 2 * v);
            Examples.add(x, v + 1, 2 * v + 1);
        }
        for (int j = 0; j < 10; j++) {
            due("number " + j, x.subset(0, 0, j), 3L << 2 * j);
        }
        due("no number 10", x.subset(0, 0, 10), 0);
        due("without the first variable", x.subset(1, 1, 0), 12);
        due("without the last variable", x.subset(512, 0, 9), 0);
    }

    private static void subsetByWhichItIsHopeless() {
        CHECK.about("(also that by which it is HOPELESS)");
        WeightedClauses x = Examples.with(2, soft(1, 0), soft(2, 1), hard(2), hard(3));
        due("found before it", x.subset(0, 0, 0), 3);
        due("that by which it is", x.subset(0, 0, 1), 12);
        due("none behind it", x.subset(0, 0, 2), 0);
        due("as the first one", Examples.contradiction(10).subset(0, 0, 0), 3);
        WeightedClauses early = Examples.with(2, hard(0), hard(1), soft(2, 2), soft(2, 3));
        due("the rounds end with it", early.subset(0, 0, 1), 0);
    }

    private static void sumOfPowers() {
        CHECK.about("the sum of 2^k for its clauses k");
        WeightedClauses x = new WeightedClauses(2);
        for (int k = 0; k < 40; k++) {
            Examples.add(x, 1, 2);
        }
        int[] numbers = {1, 30, 31, 32, 33, 39};
        for (int k : numbers) {
            WeightedClauses y = new WeightedClauses(2);
            for (int i = 0; i < k; i++) {
                Examples.add(y, 1, 2);
            }
            Examples.add(y, 1, 3);
            due("clauses 0 and " + k, y.subset(0, 0, 0), (1L << k) + 1);
        }
        due("no subset of forty that agree", x.subset(0, 0, 0), 0);
        WeightedClauses high = new WeightedClauses(2);
        for (int k = 0; k < 38; k++) {
            Examples.add(high, 1, 0, 2);
        }
        Examples.add(high, 1, 2);
        Examples.add(high, 1, 3);
        due("clauses 38 and 39", high.subset(0, 0, 0), 3L << 38);
    }

    private static void noSubset() {
        CHECK.about("0 when there is none.");
        int[] numbers = {0, 1, -1, 39, 40, 41, Integer.MIN_VALUE, Integer.MAX_VALUE};
        for (int j : numbers) {
            due("no clauses, j = " + j, new WeightedClauses(1).subset(0, 0, j), 0);
        }
        WeightedClauses most = new WeightedClauses(1);
        for (int k = 0; k < 40; k++) {
            Examples.add(most, 1, k % 2);
        }
        due("the first of twenty", most.subset(0, 0, 0), 3);
        due("the last of twenty", most.subset(0, 0, 19), 3L << 38);
        for (int j : new int[] {20, 21, 39, 40, 64, -1, -20, Integer.MIN_VALUE, Integer.MAX_VALUE}) {
            due("of twenty, j = " + j, most.subset(0, 0, j), 0);
        }
        due("all have values: none", most.subset(1, 1, 0), 0);
        due("and the first of twenty again", most.subset(0, 0, 0), 3);
        WeightedClauses broken = Examples.with(2, hard(0), soft(1, 2), soft(1, 3));
        due("hopeless without one", broken.subset(1, 0, 0), 0);
        due("not that of the state before", broken.subset(1, 1, 0) - broken.subset(1, 0, 0), 6);
    }

    private static void firstOfANode() {
        CHECK.about("The literal that a node with this state tries first, if it branches");
        WeightedClauses none = new WeightedClauses(10);
        due("no clauses: the least variable, true", none.first(0, 0), 0);
        due("no clauses, all but the last have values", none.first(511, 511), 18);
        WeightedClauses last = Examples.with(10, soft(1, 19));
        due("the last literal", last.first(0, 0), 19);
        due("no open clause is left: the least variable", last.first(512, 0), 0);
        due("a false one is not open: the least variable", last.first(512, 512), 0);
        WeightedClauses tie = Examples.with(2, soft(1, 3), soft(1, 2));
        due("as many say true as false", tie.first(0, 0), 2);
        Examples.add(tie, 1, 3);
        due("one more says false", tie.first(0, 0), 3);
        WeightedClauses hopeless = Examples.with(2, hard(0), soft(1, 3));
        due("a state that is hopeless has one too", hopeless.first(1, 0), 3);
        due("clauses count, not weights", Examples.with(2, soft(1000000, 0), soft(1, 3), soft(1, 3)).first(0, 0), 3);
    }

    private static void firstWhenAllHaveValues() {
        CHECK.about("NONE when all variables have values.");
        for (int n = 1; n <= 10; n++) {
            int all = (1 << n) - 1;
            WeightedClauses x = Examples.with(n, soft(1, 1), soft(1, 2 * n - 1));
            due("all true, of " + n, x.first(all, all), -1);
            due("all false, of " + n, x.first(all, 0), -1);
            due("all but the last have values, of " + n, x.first(all >> 1, 0), 2 * n - 1);
        }
        due("no clauses", new WeightedClauses(1).first(1, 0), -1);
    }
}
