/** Each promise of the document by runs that were worked out by hand: ordinary ones, edges, wrong inputs. */
public final class PromisesTest {
    private static final Check CHECK = new Check();

    public static void main(String[] args) {
        promise1NewObject();
        promise2Variables();
        promise3Clause();
        promise3WrongClauses();
        promise3FortyClauses();
        promise4Drop();
        promise5Weigh();
        promise6Clauses();
        promise7Cost();
        promise8Bound();
        promise8OrderOfClauses();
        promise8FromAState();
        promise8Hopeless();
        promise9Subset();
        promise9HighNumbers();
        promise10First();
        promise11Solve();
        promise11BigCosts();
        promise12Value();
        promise13Nodes();
        promise14Logged();
        promise15Log();
        promise16Best();
        whatEndsWhatWasFound();
        whatLeavesWhatWasFound();
        noStateThrows();
        CHECK.finish();
    }

    private static void due(String what, long got, long want) {
        CHECK.due(what, got, want);
    }

    private static void soft(WeightedClauses x, int weight, int... literals) {
        Examples.add(x, weight, literals);
    }

    private static void hard(WeightedClauses x, int... literals) {
        soft(x, 0, literals);
    }

    private static WeightedClauses solvedOne() {
        WeightedClauses x = Examples.twoVariables();
        x.solve();
        return x;
    }

    private static void dueFound(String what, WeightedClauses x) {
        due(what + ": value(0)", x.value(0), 1);
        due(what + ": value(1)", x.value(1), 1);
        due(what + ": nodes()", x.nodes(), 5);
        due(what + ": logged()", x.logged(), 1);
        due(what + ": log(0, 0)", x.log(0, 0), 1);
        due(what + ": log(0, 1)", x.log(0, 1), 0);
        due(what + ": best(0)", x.best(0), 4);
    }

    private static void dueNothingFound(String what, WeightedClauses x) {
        due(what + ": value(0)", x.value(0), -1);
        due(what + ": value(1)", x.value(1), -1);
        due(what + ": nodes()", x.nodes(), 0);
        due(what + ": logged()", x.logged(), 0);
        due(what + ": log(0, 0)", x.log(0, 0), -1);
        due(what + ": log(0, 1)", x.log(0, 1), -1);
        due(what + ": best(0)", x.best(0), -1);
    }

    private static void promise1NewObject() {
        int[] asked = {Integer.MIN_VALUE, -1, 0, 1, 2, 9, 10, 11, Integer.MAX_VALUE};
        int[] given = {1, 1, 1, 1, 2, 9, 10, 10, 10};
        for (int i = 0; i < asked.length; i++) {
            WeightedClauses x = new WeightedClauses(asked[i]);
            due("P1 variables of " + asked[i], x.variables(), given[i]);
            due("P1 clauses of " + asked[i], x.clauses(), 0);
            dueNothingFound("P1 " + asked[i], x);
        }
    }

    private static void promise2Variables() {
        WeightedClauses x = new WeightedClauses(7);
        due("P2 new", x.variables(), 7);
        soft(x, 3, 0, 13);
        x.solve();
        x.drop();
        due("P2 after other calls", x.variables(), 7);
    }

    private static void promise3Clause() {
        WeightedClauses x = new WeightedClauses(4);
        due("P3 first", x.clause(0, 0, -1, -1, -1), 0);
        due("P3 any place", x.clause(1, -1, -1, 3, -1), 1);
        due("P3 last place", x.clause(1000000, -1, -1, -1, 7), 2);
        due("P3 four literals", x.clause(5, 6, 5, 2, 1), 3);
        due("P3 the same again", x.clause(5, 6, 5, 2, 1), 4);
        due("P3 all four literals false, twice", x.cost(15, 5), 10L);
        due("P3 a counts", x.cost(15, 13), 1000000L);
        due("P3 b counts", x.cost(15, 1), 0L);
        due("P3 c counts", x.cost(15, 7), 1L);
        due("P3 the weight 0 is hard", x.cost(15, 4), -2L);
        x.drop();
        due("P3 number after a drop", x.clause(2, 0, 2, -1, -1), 4);
    }

    private static void promise3WrongClauses() {
        WeightedClauses x = new WeightedClauses(4);
        int[][] wrong = {
            {-1, 0, -1, -1, -1}, {1000001, 0, -1, -1, -1}, {Integer.MIN_VALUE, 0, -1, -1, -1},
            {1, -1, -1, -1, -1}, {1, 8, -1, -1, -1}, {1, 0, 8, -1, -1}, {1, 0, -1, 8, -1}, {1, 0, -1, -1, 8},
            {1, -2, 0, -1, -1}, {1, 0, -2, -1, -1}, {1, 0, -1, -2, -1}, {1, 0, -1, -1, -2},
            {1, Integer.MAX_VALUE, -1, -1, -1}, {1, Integer.MIN_VALUE, -1, -1, -1},
            {1, 0, 0, -1, -1}, {1, 0, 1, -1, -1}, {1, 0, -1, 1, -1}, {1, 0, -1, -1, 0},
            {1, -1, 3, 2, -1}, {1, -1, 3, -1, 3}, {1, 0, 2, 6, 7}, {1, 0, 2, 4, 1}, {0, 0, 2, 4, 5},
        };
        for (int[] w : wrong) {
            CHECK.illegalArgument("P3 clause(" + java.util.Arrays.toString(w) + ")",
                    () -> x.clause(w[0], w[1], w[2], w[3], w[4]));
        }
        due("P3 wrong ones change nothing", x.clauses(), 0);
    }

    private static void promise3FortyClauses() {
        WeightedClauses x = new WeightedClauses(3);
        for (int k = 0; k < 40; k++) {
            due("P3 number", x.clause(k, k % 6, -1, -1, -1), k);
        }
        x.solve();
        int nodes = x.nodes();
        CHECK.illegalState("P3 the 41st", () -> x.clause(1, 0, -1, -1, -1));
        CHECK.illegalArgument("P3 the 41st, wrong weight", () -> x.clause(-1, 0, -1, -1, -1));
        CHECK.illegalArgument("P3 the 41st, wrong literals", () -> x.clause(1, 0, 1, -1, -1));
        due("P3 still 40", x.clauses(), 40);
        due("P3 the 41st ends nothing", x.nodes(), nodes);
        due("P3 room again", x.drop(), 39);
        due("P3 the 40th again", x.clause(1, 0, -1, -1, -1), 39);
    }

    private static void promise4Drop() {
        WeightedClauses x = new WeightedClauses(2);
        due("P4 none", x.drop(), -1);
        soft(x, 5, 0);
        soft(x, 7, 0);
        due("P4 one left", x.drop(), 1);
        due("P4 the greatest number went", x.cost(1, 0), 5L);
        due("P4 none left", x.drop(), 0);
        due("P4 no cost", x.cost(1, 0), 0L);
        due("P4 none again", x.drop(), -1);
        due("P4 clauses", x.clauses(), 0);
        WeightedClauses found = new WeightedClauses(2);
        found.solve();
        due("P4 nothing to drop", found.drop(), -1);
        due("P4 no clause changed, so what was found stays", found.nodes(), 5);
    }

    private static void promise5Weigh() {
        WeightedClauses x = new WeightedClauses(2);
        CHECK.illegalArgument("P5 no clause", () -> x.weigh(0, 1));
        soft(x, 5, 0);
        soft(x, 7, 2);
        due("P5 the old weight", x.weigh(0, 1000000), 5);
        due("P5 the greatest", x.cost(3, 0), 1000007L);
        due("P5 becomes hard", x.weigh(0, 0), 1000000);
        due("P5 is hard", x.cost(3, 0), -2L);
        due("P5 was hard", x.weigh(0, 3), 0);
        due("P5 is soft", x.cost(3, 0), 10L);
        due("P5 the same", x.weigh(1, 7), 7);
        CHECK.illegalArgument("P5 number -1", () -> x.weigh(-1, 1));
        CHECK.illegalArgument("P5 number 2", () -> x.weigh(2, 1));
        CHECK.illegalArgument("P5 weight -1", () -> x.weigh(0, -1));
        CHECK.illegalArgument("P5 weight 1000001", () -> x.weigh(0, 1000001));
        due("P5 wrong ones change nothing", x.cost(3, 0), 10L);
        x.drop();
        CHECK.illegalArgument("P5 a dropped one", () -> x.weigh(1, 1));
    }

    private static void promise6Clauses() {
        WeightedClauses x = new WeightedClauses(2);
        due("P6 none", x.clauses(), 0);
        soft(x, 5, 0);
        hard(x, 2);
        due("P6 two", x.clauses(), 2);
        x.weigh(0, 3);
        x.solve();
        due("P6 still two", x.clauses(), 2);
        x.drop();
        due("P6 one", x.clauses(), 1);
    }

    private static void promise7Cost() {
        WeightedClauses x = new WeightedClauses(3);
        due("P7 no clauses", x.cost(7, 5), 0L);
        soft(x, 5, 0, 3);
        soft(x, 7, 1);
        soft(x, 11, 5);
        hard(x, 1, 2, 4);
        due("P7 no values", x.cost(0, 0), 0L);
        due("P7 one literal without a value", x.cost(1, 0), 0L);
        due("P7 all literals false", x.cost(3, 2), 5L);
        due("P7 one literal true", x.cost(3, 0), 0L);
        due("P7 two false ones", x.cost(5, 5), 18L);
        due("P7 hard and open", x.cost(3, 1), 7L);
        due("P7 hard and false", x.cost(7, 1), -2L);
        due("P7 hard and true", x.cost(7, 0), 0L);
    }

    private static void promise8Bound() {
        WeightedClauses x = new WeightedClauses(3);
        due("P8 no clauses", x.bound(0, 0), 0L);
        soft(x, 4, 0);
        soft(x, 3, 1, 2);
        due("P8 no clause becomes false", x.bound(0, 0), 0L);
        soft(x, 2, 3);
        due("P8 one subset, the lightest of three", x.bound(0, 0), 2L);
        soft(x, 9, 4);
        hard(x, 5);
        due("P8 a hard clause does not weigh", x.bound(0, 0), 11L);
        due("P8 the first subset", x.subset(0, 0, 0), 7L);
        due("P8 the second subset", x.subset(0, 0, 1), 24L);
        x.weigh(1, 1);
        due("P8 now another is the lightest", x.bound(0, 0), 10L);
        due("P8 asked again", x.bound(0, 0), 10L);
    }

    private static void promise8OrderOfClauses() {
        WeightedClauses least = new WeightedClauses(1);
        soft(least, 1, 0);
        soft(least, 2, 1);
        soft(least, 3, 1);
        due("P8 least false one begins", least.subset(0, 0, 0), 3L);
        due("P8 the other one stays alone", least.bound(0, 0), 1L);

        WeightedClauses stops = new WeightedClauses(2);
        soft(stops, 5, 1, 3);
        soft(stops, 7, 1, 2);
        soft(stops, 4, 0);
        soft(stops, 3, 1);
        due("P8 x stops growing at a false clause", stops.subset(0, 0, 0), 12L);
        due("P8 no second subset", stops.bound(0, 0), 3L);

        WeightedClauses order = new WeightedClauses(3);
        soft(order, 8, 3, 4);
        soft(order, 9, 1, 4);
        soft(order, 1, 0);
        soft(order, 2, 2);
        soft(order, 6, 5);
        due("P8 the unit clause with the least number is next", order.subset(0, 0, 0), 22L);
        due("P8 and nothing is left to find", order.bound(0, 0), 1L);

        WeightedClauses apart = new WeightedClauses(3);
        soft(apart, 1, 4);
        soft(apart, 5, 0);
        soft(apart, 6, 1);
        due("P8 a reason of no variable of the subset stays out", apart.subset(0, 0, 0), 6L);
        due("P8 and does not weigh", apart.bound(0, 0), 5L);
    }

    private static void promise8FromAState() {
        WeightedClauses x = new WeightedClauses(2);
        soft(x, 5, 0);
        soft(x, 3, 2);
        soft(x, 4, 3, 0);
        due("P8 begins with the cost", x.bound(1, 0), 8L);
        due("P8 false ones are not available", x.subset(1, 0, 0), 6L);
        due("P8 one subset", x.subset(1, 0, 1), 0L);
        due("P8 true ones are not available", x.bound(1, 1), 0L);
        due("P8 nothing false", x.subset(1, 1, 0), 0L);
        due("P8 all have values", x.bound(3, 0), 8L);
        due("P8 all have values: no subset", x.subset(3, 0, 0), 0L);
    }

    private static void promise8Hopeless() {
        WeightedClauses x = new WeightedClauses(2);
        soft(x, 1, 0);
        soft(x, 2, 1);
        hard(x, 2);
        due("P8 not hopeless", x.bound(0, 0), 1L);
        hard(x, 3);
        due("P8 hopeless by the second subset", x.bound(0, 0), -2L);
        due("P8 hopeless by a false hard clause", x.bound(2, 0), -2L);
        due("P8 cost may be known where the bound is hopeless", x.cost(0, 0), 0L);
    }

    private static void promise9Subset() {
        WeightedClauses x = new WeightedClauses(2);
        soft(x, 1, 0);
        soft(x, 2, 1);
        hard(x, 2);
        hard(x, 3);
        due("P9 the first", x.subset(0, 0, 0), 3L);
        due("P9 that by which it is hopeless", x.subset(0, 0, 1), 12L);
        due("P9 no third", x.subset(0, 0, 2), 0L);
        due("P9 j = -1", x.subset(0, 0, -1), 0L);
        due("P9 least j", x.subset(0, 0, Integer.MIN_VALUE), 0L);
        due("P9 greatest j", x.subset(0, 0, Integer.MAX_VALUE), 0L);
        due("P9 j = 40", x.subset(0, 0, 40), 0L);
        due("P9 none when a hard clause is false", x.subset(2, 0, 0), 0L);
        due("P9 the first again", x.subset(0, 0, 0), 3L);
        due("P9 none of the old ones for another state", x.subset(3, 3, 0), 0L);
    }

    private static void promise9HighNumbers() {
        WeightedClauses x = new WeightedClauses(10);
        for (int k = 0; k < 38; k++) {
            soft(x, 1, 0, 2, 4, 6);
        }
        soft(x, 1000000, 18);
        soft(x, 999999, 19);
        due("P9 clauses 38 and 39", x.subset(0, 0, 0), (1L << 38) + (1L << 39));
        due("P9 their weight", x.bound(0, 0), 999999L);

        WeightedClauses many = new WeightedClauses(1);
        for (int k = 0; k < 40; k++) {
            soft(many, 1000000, k < 20 ? 0 : 1);
        }
        due("P9 the last of twenty", many.subset(0, 0, 19), (1L << 19) + (1L << 39));
        due("P9 no more than twenty", many.subset(0, 0, 20), 0L);
        due("P9 all weigh", many.bound(0, 0), 20000000L);
    }

    private static void promise10First() {
        WeightedClauses x = new WeightedClauses(3);
        due("P10 no clauses: the least variable, true", x.first(0, 0), 0);
        due("P10 no clauses: the least without a value", x.first(1, 0), 2);
        soft(x, 9, 2, 5);
        soft(x, 9, 3, 0);
        due("P10 as many true as false: true", x.first(0, 0), 2);
        hard(x, 3);
        due("P10 more of them false: false", x.first(0, 0), 3);
        due("P10 only open clauses count", x.first(2, 0), 5);
        due("P10 none open", x.first(6, 0), 0);
        due("P10 a true clause does not count", x.first(1, 1), 2);
        due("P10 hopeless or not", x.first(2, 2), 0);
        due("P10 all have values", x.first(7, 2), -1);
        WeightedClauses even = new WeightedClauses(3);
        soft(even, 1, 5, 3);
        due("P10 of several the least", even.first(0, 0), 3);
        due("P10 of the rest the least", even.first(1, 0), 3);
        due("P10 the last one", even.first(3, 2), 5);
    }

    private static void promise11Solve() {
        due("P11 no clauses", new WeightedClauses(3).solve(), 0L);
        WeightedClauses x = new WeightedClauses(1);
        soft(x, 3, 0);
        soft(x, 5, 1);
        due("P11 the cheaper one comes second", x.solve(), 3L);
        due("P11 again", x.solve(), 3L);
        hard(x, 0);
        due("P11 the cheaper one is ruled out", x.solve(), 5L);
        hard(x, 1);
        due("P11 none", x.solve(), -2L);
        x.drop();
        due("P11 one again", x.solve(), 5L);
        due("P11 a hopeless branch first", Examples.hopelessBranch().solve(), 7L);
    }

    private static void promise11BigCosts() {
        WeightedClauses x = new WeightedClauses(1);
        hard(x, 0);
        for (int k = 1; k < 40; k++) {
            soft(x, 1000000, 1);
        }
        due("P11 39 of the greatest weight", x.solve(), 39000000L);
        due("P11 as many by the cost", x.cost(1, 1), 39000000L);
    }

    private static void promise12Value() {
        WeightedClauses x = Examples.hopelessBranch();
        due("P12 no search", x.value(0), -1);
        x.solve();
        due("P12 false", x.value(0), 0);
        due("P12 true", x.value(1), 1);
        due("P12 no variable 2", x.value(2), -1);
        due("P12 no variable -1", x.value(-1), -1);
        due("P12 no variable 32", x.value(32), -1);
        due("P12 no least variable", x.value(Integer.MIN_VALUE), -1);
        WeightedClauses even = new WeightedClauses(1);
        soft(even, 4, 0);
        soft(even, 4, 1);
        even.solve();
        due("P12 as cheap is not less: the first stays", even.value(0), 1);
        hard(even, 0);
        hard(even, 1);
        even.solve();
        due("P12 none was found", even.value(0), -1);
    }

    private static void promise13Nodes() {
        WeightedClauses x = new WeightedClauses(2);
        due("P13 no search", x.nodes(), 0);
        x.solve();
        due("P13 the second half is as good, so it is given up", x.nodes(), 5);
        x.solve();
        due("P13 not added up", x.nodes(), 5);
        soft(x, 3, 0);
        soft(x, 5, 1);
        soft(x, 1, 2);
        x.solve();
        due("P13 all nodes of two variables", x.nodes(), 7);
        WeightedClauses none = new WeightedClauses(3);
        hard(none, 0);
        hard(none, 1);
        none.solve();
        due("P13 the first one is hopeless", none.nodes(), 1);
    }

    private static void promise14Logged() {
        WeightedClauses x = Examples.hopelessBranch();
        due("P14 no search", x.logged(), 0);
        x.solve();
        due("P14 one", x.logged(), 1);
        x.solve();
        due("P14 not added up", x.logged(), 1);
        WeightedClauses leaves = new WeightedClauses(2);
        hard(leaves, 0, 2);
        hard(leaves, 0, 3);
        hard(leaves, 1, 2);
        hard(leaves, 1, 3);
        due("P14 no unit clause at first", leaves.bound(0, 0), 0L);
        leaves.solve();
        due("P14 both halves are hopeless", leaves.logged(), 2);
        due("P14 and are not gone into", leaves.nodes(), 3);
        WeightedClauses one = new WeightedClauses(1);
        soft(one, 5, 0);
        one.solve();
        due("P14 a leaf is never logged, however dear", one.logged(), 0);
        due("P14 but it is a node", one.nodes(), 3);
    }

    private static void promise15Log() {
        WeightedClauses x = Examples.hopelessBranch();
        due("P15 no search", x.log(0, 0), -1);
        x.solve();
        due("P15 have", x.log(0, 0), 1);
        due("P15 values", x.log(0, 1), 1);
        due("P15 what = 2", x.log(0, 2), -1);
        due("P15 what = -1", x.log(0, -1), -1);
        due("P15 k = 1", x.log(1, 0), -1);
        due("P15 k = -1", x.log(-1, 0), -1);
        due("P15 greatest k", x.log(Integer.MAX_VALUE, 1), -1);
        due("P15 least k", x.log(Integer.MIN_VALUE, 1), -1);
        WeightedClauses two = new WeightedClauses(3);
        two.solve();
        due("P15 the deepest one first", two.log(0, 0), 3);
        due("P15 its values", two.log(0, 1), 1);
        due("P15 then the one above", two.log(1, 0), 1);
        due("P15 its values", two.log(1, 1), 0);
        due("P15 no more", two.log(2, 0), -1);
    }

    private static void promise16Best() {
        WeightedClauses x = Examples.hopelessBranch();
        due("P16 no search", x.best(0), -1);
        x.solve();
        due("P16 no best one then", x.best(0), -1);
        due("P16 k = 1", x.best(1), -1);
        due("P16 k = -1", x.best(-1), -1);
        due("P16 greatest k", x.best(Integer.MAX_VALUE), -1);
        WeightedClauses y = solvedOne();
        due("P16 the best one then", y.best(0), 4);
        WeightedClauses later = new WeightedClauses(3);
        soft(later, 9, 1);
        soft(later, 3, 0, 2);
        soft(later, 1, 0, 4);
        soft(later, 2, 3);
        due("P16 the cost in the end", later.solve(), 2L);
        due("P16 x0 true comes first", later.first(0, 0), 0);
        due("P16 x1 true is given up", later.log(0, 0), 3);
        due("P16 x1 true is given up: values", later.log(0, 1), 3);
        due("P16 the best one of then, not of the end", later.best(0), 9L);
        due("P16 two were logged", later.logged(), 2);
        due("P16 x0 and x1 false is given up", later.log(1, 0), 3);
        due("P16 x0 and x1 false is given up: values", later.log(1, 1), 0);
        due("P16 the cheaper one then", later.best(1), 2L);
    }

    private static void whatEndsWhatWasFound() {
        dueFound("found", solvedOne());
        WeightedClauses more = solvedOne();
        soft(more, 1, 0);
        dueNothingFound("a clause more", more);
        WeightedClauses less = solvedOne();
        less.drop();
        dueNothingFound("a clause less", less);
        WeightedClauses other = solvedOne();
        other.weigh(0, 5);
        dueNothingFound("another weight", other);
        WeightedClauses same = solvedOne();
        same.weigh(0, 4);
        dueNothingFound("the same weight", same);
        same.solve();
        dueFound("found again", same);
    }

    private static void whatLeavesWhatWasFound() {
        WeightedClauses x = solvedOne();
        Check.told(() -> x.clause(1, 0, 1, -1, -1));
        dueFound("a wrong clause", x);
        Check.told(() -> x.weigh(3, 1));
        Check.told(() -> x.weigh(0, 1000001));
        dueFound("a wrong weight", x);
        Check.told(() -> x.bound(4, 0));
        x.cost(3, 1);
        x.bound(1, 1);
        x.subset(0, 0, 0);
        x.first(2, 2);
        dueFound("questions", x);
        due("clauses as before", x.clauses(), 3);
    }

    private static void noStateThrows() {
        WeightedClauses x = new WeightedClauses(3);
        soft(x, 5, 0);
        int[][] wrong = {
            {8, 0}, {8, 8}, {0, 1}, {1, 2}, {3, 7}, {-1, 0}, {-1, -1}, {7, -1}, {7, 8},
            {Integer.MIN_VALUE, 0}, {7, Integer.MIN_VALUE}, {1 << 30, 0},
        };
        for (int[] w : wrong) {
            String state = "(" + w[0] + ", " + w[1] + ")";
            CHECK.illegalArgument("P7 cost" + state, () -> x.cost(w[0], w[1]));
            CHECK.illegalArgument("P8 bound" + state, () -> x.bound(w[0], w[1]));
            CHECK.illegalArgument("P9 subset" + state, () -> x.subset(w[0], w[1], 0));
            CHECK.illegalArgument("P9 subset of no number" + state, () -> x.subset(w[0], w[1], -1));
            CHECK.illegalArgument("P10 first" + state, () -> x.first(w[0], w[1]));
        }
        due("P7 the greatest state", x.cost(7, 7), 0L);
    }
}
