/** The sentences of promises 11 to 16 and of the terms that name a boundary case of the search. */
public final class SearchBoundaryTest {
    private static final Check CHECK = new Check();

    public static void main(String[] args) {
        allOf512Calls();
        firstNodeHasNoValues();
        leafWhenAllHaveValues();
        whenALeafIsTheBestOne();
        loggedWhenHopeless();
        loggedWhenNotAboveTheBound();
        branchesOnTheMostOpenClauses();
        trueComesFirst();
        oneBeforeTheOther();
        fullTree();
        fullLog();
        costOfTheBestOne();
        hopelessWhenThereIsNone();
        oneTrueZeroFalse();
        noSuchVariableOrNoneFound();
        nodesOfNoSearch();
        loggedOfNoSearch();
        logHaveAndValues();
        noSuchLogOrOtherWhat();
        bestThen();
        noBestThenOrNoSuchNode();
        CHECK.finish();
    }

    private static void due(String what, long got, long want) {
        CHECK.due(what, got, want);
    }

    private static void dueFound(String what, WeightedClauses x, String want) {
        CHECK.dueText(what, Examples.found(x), want);
    }

    private static int[] soft(int weight, int... literals) {
        return Examples.soft(weight, literals);
    }

    private static int[] hard(int... literals) {
        return Examples.hard(literals);
    }

    private static void allOf512Calls() {
        CHECK.about("An object is used for at most 512 calls after it has been made");
        WeightedClauses x = fullLogOne();
        for (int call = x.clauses() + 2; call <= 512; call++) {
            due("solve() as call " + call, x.solve(), -2);
        }
        WeightedClauses y = new WeightedClauses(10);
        for (int i = 0; i < 170; i++) {
            due("number", y.clause(1, i % 20, -1, -1, -1), 0);
            due("left", y.drop(), 0);
            due("none", y.drop(), -1);
        }
        due("call 511", y.solve(), 0);
        due("call 512", y.nodes(), 21);
    }

    private static void firstNodeHasNoValues() {
        CHECK.about("the first one without values.");
        for (int n = 1; n <= 10; n++) {
            WeightedClauses x = Examples.contradiction(n);
            x.solve();
            due("nodes of " + n, x.nodes(), 1);
            due("logged of " + n, x.logged(), 1);
            due("HAVE of the first one of " + n, x.log(0, 0), 0);
            due("VALUES of the first one of " + n, x.log(0, 1), 0);
        }
    }

    private static void leafWhenAllHaveValues() {
        CHECK.about("if all variables have values, it is a LEAF");
        WeightedClauses dear = Examples.with(1, soft(5, 0));
        dear.solve();
        dueFound("a leaf that is not cheaper is not logged", dear, "values 1 nodes 3 logged 0 -1/-1/-1");
        WeightedClauses broken = Examples.with(1, hard(0));
        broken.solve();
        dueFound("a leaf with a false hard clause is not logged", broken, "values 1 nodes 3 logged 0 -1/-1/-1");
        WeightedClauses nearly = new WeightedClauses(2);
        nearly.solve();
        dueFound("a node that lacks the last value is no leaf", nearly, "values 1 1 nodes 5 logged 1 1/0/0 -1/-1/-1");
    }

    private static void whenALeafIsTheBestOne() {
        CHECK.about("when no hard clause is false and its cost is less than the best one's, or there is no best one,"
                + " it is the best one now.");
        WeightedClauses hardLater = Examples.with(1, hard(1));
        due("a leaf with a false hard clause comes second", hardLater.solve(), 0);
        due("and is not the best one", hardLater.value(0), 0);
        WeightedClauses hardFirst = Examples.with(1, soft(1, 0), soft(1, 0), hard(1));
        due("a leaf with a false hard clause comes first", hardFirst.solve(), 2);
        due("and is not the best one either", hardFirst.value(0), 0);
        WeightedClauses equal = Examples.with(1, soft(4, 0), soft(4, 1));
        due("as much is not less", equal.solve(), 4);
        due("so the first one stays", equal.value(0), 1);
        WeightedClauses less = Examples.with(1, soft(4, 0), soft(5, 1));
        due("one less", less.solve(), 4);
        due("so it is the second one", less.value(0), 0);
        WeightedClauses more = Examples.with(1, soft(6, 0), soft(5, 1));
        due("one more", more.solve(), 5);
        due("so the first one stays", more.value(0), 1);
    }

    private static void loggedWhenHopeless() {
        CHECK.about("Otherwise, if the state is HOPELESS");
        WeightedClauses before = Examples.hopelessBranch();
        before.solve();
        dueFound("before there is a best one", before, "values 0 1 nodes 5 logged 1 1/1/-1 -1/-1/-1");
        WeightedClauses after = Examples.with(2, hard(0, 2), hard(0, 3), soft(1, 1), soft(1, 1), soft(1, 0));
        due("x0 true comes first, and costs 2", after.solve(), 2);
        dueFound("after there is a best one", after, "values 1 1 nodes 5 logged 1 1/0/2 -1/-1/-1");
        WeightedClauses both = Examples.with(2, hard(0, 2), hard(0, 3), hard(1, 2), hard(1, 3));
        both.solve();
        dueFound("both halves", both, "values -1 -1 nodes 3 logged 2 1/1/-1 1/0/-1 -1/-1/-1");
    }

    private static void loggedWhenNotAboveTheBound() {
        CHECK.about("or there is a best one and its cost is not above the bound, the node is LOGGED");
        WeightedClauses x = Examples.twoVariables();
        x.solve();
        dueFound("as much as the bound", x, "values 1 1 nodes 5 logged 1 1/0/4 -1/-1/-1");
        x.weigh(0, 5);
        x.solve();
        dueFound("one below the bound", x, "values 1 1 nodes 5 logged 1 1/0/4 -1/-1/-1");
        x.weigh(0, 3);
        x.solve();
        dueFound("one above the bound", x, "values 0 1 nodes 7 logged 0 -1/-1/-1");
        WeightedClauses none = Examples.with(2, soft(1000000, 0), soft(1000000, 1), soft(1, 2));
        due("no best one yet: no bound is too much", none.solve(), 1000000);
        due("so the first nodes are not logged", none.log(0, 0), 1);
    }

    private static void branchesOnTheMostOpenClauses() {
        CHECK.about("on the variable without a value which is in the most open clauses, of several the least one");
        WeightedClauses most = Examples.with(3, soft(1, 4));
        most.solve();
        dueFound("the last one is in the most", most, "values 1 1 1 nodes 7 logged 2 5/4/0 4/0/0 -1/-1/-1");
        WeightedClauses several = Examples.with(3, soft(1, 2, 4));
        several.solve();
        dueFound("of two the least one", several, "values 1 1 1 nodes 7 logged 2 3/2/0 2/0/0 -1/-1/-1");
        WeightedClauses none = new WeightedClauses(3);
        none.solve();
        dueFound("of all the least one", none, "values 1 1 1 nodes 7 logged 2 3/1/0 1/0/0 -1/-1/-1");
    }

    private static void trueComesFirst() {
        CHECK.about("the value true comes first, unless more of these clauses have its literal that says false");
        WeightedClauses more = Examples.with(2, soft(1, 1));
        more.solve();
        dueFound("more say false", more, "values 0 1 nodes 5 logged 1 1/1/0 -1/-1/-1");
        WeightedClauses asMany = Examples.with(2, soft(1, 1), soft(1, 0));
        asMany.solve();
        dueFound("as many say true", asMany, "values 1 1 nodes 5 logged 1 1/0/1 -1/-1/-1");
        WeightedClauses both = Examples.with(2, soft(1, 1), soft(1, 3));
        both.solve();
        dueFound("of both variables", both, "values 0 0 nodes 5 logged 1 1/1/0 -1/-1/-1");
        WeightedClauses notOpen = Examples.with(2, soft(1, 0), soft(1, 0), soft(1, 0, 3));
        notOpen.solve();
        dueFound("a true clause is none of these", notOpen, "values 1 1 nodes 5 logged 1 1/0/0 -1/-1/-1");
    }

    private static void oneBeforeTheOther() {
        CHECK.about("all of the search from the one comes before the node of the other one.");
        WeightedClauses x = new WeightedClauses(10);
        x.solve();
        due("one path, and one node beside each of its nodes", x.nodes(), 21);
        due("all but the two leaves' were logged", x.logged(), 9);
        for (int k = 0; k < 9; k++) {
            due("the deepest ones first: HAVE", x.log(k, 0), (1 << 9 - k) - 1);
            due("the deepest ones first: VALUES", x.log(k, 1), (1 << 8 - k) - 1);
        }
    }

    /** Each leaf is cheaper by one than the one before it, so no bound is ever too much. */
    private static WeightedClauses fullTreeOne(int n) {
        WeightedClauses x = new WeightedClauses(n);
        for (int v = 0; v < n; v++) {
            Examples.add(x, 1, 2 * v);
            Examples.add(x, 1 + (1 << n - 1 - v), 2 * v + 1);
        }
        return x;
    }

    private static void fullTree() {
        CHECK.about("THE SEARCH goes from node to node, each with a state");
        for (int n = 1; n <= 10; n++) {
            WeightedClauses x = fullTreeOne(n);
            due("the last leaf is the best one, of " + n, x.solve(), n);
            due("all nodes, of " + n, x.nodes(), (2 << n) - 1);
            due("none logged, of " + n, x.logged(), 0);
            for (int v = 0; v < n; v++) {
                due("all are false, of " + n, x.value(v), 0);
            }
        }
    }

    /** No more than the last two variables contradict each other, and those are tried last. */
    private static WeightedClauses fullLogOne() {
        WeightedClauses x = new WeightedClauses(10);
        for (int v = 0; v < 8; v++) {
            Examples.add(x, 1, 2 * v);
            Examples.add(x, 1, 2 * v);
            Examples.add(x, 1, 2 * v + 1);
            Examples.add(x, 1, 2 * v + 1);
        }
        Examples.add(x, 0, 16, 18);
        Examples.add(x, 0, 16, 19);
        Examples.add(x, 0, 17, 18);
        Examples.add(x, 0, 17, 19);
        return x;
    }

    private static void fullLog() {
        CHECK.about("the node is LOGGED, as the next one.");
        WeightedClauses x = fullLogOne();
        due("there is none", x.solve(), -2);
        due("all nodes but the leaves", x.nodes(), 1023);
        due("those above the leaves were logged", x.logged(), 512);
        int[] some = {0, 1, 2, 255, 256, 510, 511};
        for (int k : some) {
            due("HAVE of " + k, x.log(k, 0), 511);
            // The last variable to be tried changes first, and each is true first.
            due("VALUES of " + k, x.log(k, 1), Integer.reverse(511 - k) >>> 23);
            due("best of " + k, x.best(k), -1);
        }
        due("no node 512", x.log(512, 0), -1);
    }

    private static void costOfTheBestOne() {
        CHECK.about("Searches: the cost of the best one");
        for (int n = 1; n <= 10; n++) {
            due("no clauses, of " + n, new WeightedClauses(n).solve(), 0);
        }
        WeightedClauses dear = new WeightedClauses(1);
        Examples.add(dear, 0, 0);
        for (int k = 1; k < 40; k++) {
            Examples.add(dear, 1000000, 1);
        }
        due("the greatest cost that can't be helped", dear.solve(), 39000000L);
        due("again", dear.solve(), 39000000L);
        WeightedClauses half = new WeightedClauses(10);
        for (int k = 0; k < 40; k++) {
            Examples.add(half, 1000000, 18 + k % 2);
        }
        due("half of forty", half.solve(), 20000000L);
    }

    private static void hopelessWhenThereIsNone() {
        CHECK.about("HOPELESS when there is none.");
        for (int n = 1; n <= 10; n++) {
            WeightedClauses x = Examples.contradiction(n);
            due("of " + n, x.solve(), -2);
            due("again", x.solve(), -2);
            x.weigh(1, 1);
            due("one of both is soft now", x.solve(), 1);
            x.weigh(1, 0);
            due("no longer", x.solve(), -2);
            x.drop();
            due("it went", x.solve(), 0);
        }
    }

    private static void oneTrueZeroFalse() {
        CHECK.about("The value of variable v in the best one: 1 true, 0 false");
        WeightedClauses x = new WeightedClauses(10);
        for (int v = 0; v < 10; v++) {
            Examples.add(x, 0, 2 * v + v % 2);
        }
        x.solve();
        for (int v = 0; v < 10; v++) {
            due("variable " + v, x.value(v), 1 - v % 2);
        }
    }

    private static void noSuchVariableOrNoneFound() {
        CHECK.about("NONE when there is no such variable or none was found.");
        for (int n = 1; n <= 10; n++) {
            WeightedClauses x = new WeightedClauses(n);
            due("no search, of " + n, x.value(0), -1);
            x.solve();
            due("the last variable of " + n, x.value(n - 1), 1);
            int[] wrong = {n, n + 1, 10, 31, 32, 33, 64, -1, -31, -32, Integer.MIN_VALUE, Integer.MAX_VALUE};
            for (int v : wrong) {
                due("variable " + v + " of " + n, x.value(v), -1);
            }
            Examples.add(x, 0, 0);
            due("it ended, of " + n, x.value(0), -1);
            Examples.add(x, 0, 1);
            x.solve();
            due("there is none, of " + n, x.value(0), -1);
            due("there is none, of " + n + ": the last variable", x.value(n - 1), -1);
        }
    }

    private static void nodesOfNoSearch() {
        CHECK.about("How many nodes the search went to; 0 when there was none.");
        WeightedClauses x = new WeightedClauses(1);
        due("new", x.nodes(), 0);
        x.bound(0, 0);
        x.first(0, 0);
        due("questions are no search", x.nodes(), 0);
        x.solve();
        due("the least that has a best one", x.nodes(), 3);
        x.solve();
        due("the last search alone counts", x.nodes(), 3);
        Examples.add(x, 0, 0);
        due("it ended", x.nodes(), 0);
        Examples.add(x, 0, 1);
        x.solve();
        due("the least", x.nodes(), 1);
        WeightedClauses full = fullTreeOne(10);
        full.solve();
        due("the most", full.nodes(), 2047);
    }

    private static void loggedOfNoSearch() {
        CHECK.about("How many nodes were logged; 0 when there was no search.");
        WeightedClauses x = new WeightedClauses(1);
        due("new", x.logged(), 0);
        x.solve();
        due("none was logged", x.logged(), 0);
        WeightedClauses y = Examples.contradiction(1);
        due("no search yet", y.logged(), 0);
        y.solve();
        due("one", y.logged(), 1);
        y.solve();
        due("the last search alone counts", y.logged(), 1);
        y.drop();
        due("it ended", y.logged(), 0);
        y.solve();
        due("none this time", y.logged(), 0);
        due("and nothing is left of the one before", y.log(0, 0), -1);
    }

    private static void logHaveAndValues() {
        CHECK.about("Of the k-th node that was logged (from 0): HAVE (what = 0), VALUES (1).");
        WeightedClauses root = Examples.contradiction(10);
        root.solve();
        due("HAVE 0 is not NONE", root.log(0, 0), 0);
        due("VALUES 0 is not NONE", root.log(0, 1), 0);
        WeightedClauses last = Examples.with(10, soft(1, 18));
        last.solve();
        due("HAVE with the last variable", last.log(0, 0), 512 + 255);
        due("VALUES with the last variable", last.log(0, 1), 512 + 127);
        WeightedClauses deep = new WeightedClauses(10);
        deep.solve();
        due("HAVE of the deepest", deep.log(0, 0), 511);
        due("VALUES of the deepest", deep.log(0, 1), 255);
        due("HAVE of the last", deep.log(8, 0), 1);
        due("VALUES of the last", deep.log(8, 1), 0);
    }

    private static void noSuchLogOrOtherWhat() {
        CHECK.about("NONE when there is none such, or for another what.");
        WeightedClauses x = new WeightedClauses(3);
        int[] numbers = {2, 3, 4, 99, 512, -1, -2, Integer.MIN_VALUE, Integer.MAX_VALUE};
        int[] whats = {2, 3, -1, -2, 32, Integer.MIN_VALUE, Integer.MAX_VALUE};
        due("no search", x.log(0, 0), -1);
        due("no search", x.log(0, 1), -1);
        x.solve();
        due("the last one", x.log(1, 0), 1);
        for (int k : numbers) {
            due("k = " + k + ", HAVE", x.log(k, 0), -1);
            due("k = " + k + ", VALUES", x.log(k, 1), -1);
            due("k = " + k + ", neither", x.log(k, 2), -1);
        }
        for (int what : whats) {
            due("what = " + what, x.log(0, what), -1);
        }
        Examples.add(x, 1, 0);
        due("it ended", x.log(0, 0), -1);
    }

    private static void bestThen() {
        CHECK.about("The cost of the best one when the k-th node was logged");
        WeightedClauses none = new WeightedClauses(3);
        none.solve();
        due("the cost 0 is not NONE", none.best(0), 0);
        due("nor is it for the last one", none.best(1), 0);
        WeightedClauses dear = Examples.with(2, soft(1000000, 0), soft(1000000, 1));
        while (dear.clauses() < 40) {
            Examples.add(dear, 1000000, dear.clauses() % 2);
        }
        dear.solve();
        due("a great cost", dear.best(0), 20000000L);
        WeightedClauses later = Examples.with(3, soft(9, 1), soft(3, 0, 2), soft(1, 0, 4), soft(2, 3));
        due("the best one gets cheaper", later.solve(), 2);
        due("the one of then", later.best(0), 9);
        due("the one of later", later.best(1), 2);
    }

    private static void noBestThenOrNoSuchNode() {
        CHECK.about("NONE when there was no best one then, or there is no such node.");
        WeightedClauses x = Examples.hopelessBranch();
        due("no search", x.best(0), -1);
        due("there is a best one in the end", x.solve(), 7);
        due("but there was none then", x.best(0), -1);
        WeightedClauses y = Examples.twoVariables();
        y.solve();
        due("the only node", y.best(0), 4);
        int[] numbers = {1, 2, 99, 512, -1, -2, Integer.MIN_VALUE, Integer.MAX_VALUE};
        for (int k : numbers) {
            due("k = " + k, y.best(k), -1);
        }
        y.weigh(0, 4);
        due("it ended", y.best(0), -1);
        WeightedClauses hopeless = Examples.contradiction(2);
        hopeless.solve();
        due("never a best one", hopeless.best(0), -1);
    }
}
