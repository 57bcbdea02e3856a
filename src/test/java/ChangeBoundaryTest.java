import java.util.function.Supplier;

/** The sentences on what a call changes: nothing when it throws, and what was found when it changes clauses. */
public final class ChangeBoundaryTest {
    private static final Check CHECK = new Check();
    private static final String FOUND = "values 1 1 nodes 5 logged 1 1/0/4 -1/-1/-1";
    private static final String NOTHING = "values -1 -1 nodes 0 logged 0 -1/-1/-1";

    private interface Use {
        long answer(WeightedClauses x);
    }

    public static void main(String[] args) {
        whatThrowsChangesNothing();
        whatThrowsAtFortyChangesNothing();
        whatThrowsBeforeASearchChangesNothing();
        whatChangesClausesEndsWhatWasFound();
        whatChangesClausesEndsAHopelessSearch();
        whatChangesNoClauseEndsNothing();
        CHECK.finish();
    }

    private static WeightedClauses solved() {
        WeightedClauses x = Examples.twoVariables();
        x.solve();
        return x;
    }

    private static void keeps(String what, String exception, Supplier<WeightedClauses> maker, Use use) {
        WeightedClauses x = maker.get();
        String states = Examples.ofAllStates(x);
        String found = Examples.found(x);
        CHECK.dueText(what, Check.told(() -> use.answer(x)), "throws." + exception);
        CHECK.dueText(what + ", what was found", Examples.found(x), found);
        CHECK.dueText(what + ", the clauses", Examples.ofAllStates(x), states);
    }

    /** Every way in which a call on these two variables and fewer than 40 clauses is refused. */
    private static void refusedCallsKeep(Supplier<WeightedClauses> maker) {
        String refused = "IllegalArgumentException";
        keeps("clause, weight below", refused, maker, x -> x.clause(-1, 0, -1, -1, -1));
        keeps("clause, weight above", refused, maker, x -> x.clause(1000001, 0, -1, -1, -1));
        keeps("clause, a below", refused, maker, x -> x.clause(1, -2, 0, -1, -1));
        keeps("clause, d above", refused, maker, x -> x.clause(1, 0, -1, -1, 4));
        keeps("clause, all -1", refused, maker, x -> x.clause(1, -1, -1, -1, -1));
        keeps("clause, twice the same literal", refused, maker, x -> x.clause(0, 0, 0, -1, -1));
        keeps("clause, both literals of one variable", refused, maker, x -> x.clause(1, -1, 2, -1, 3));
        keeps("weigh, number below", refused, maker, x -> x.weigh(-1, 1));
        keeps("weigh, number above", refused, maker, x -> x.weigh(x.clauses(), 1));
        keeps("weigh, weight below", refused, maker, x -> x.weigh(0, -1));
        keeps("weigh, weight above", refused, maker, x -> x.weigh(0, 1000001));
        keeps("cost, no state", refused, maker, x -> x.cost(4, 0));
        keeps("bound, no state", refused, maker, x -> x.bound(1, 2));
        keeps("subset, no state", refused, maker, x -> x.subset(-1, 0, 0));
        keeps("first, no state", refused, maker, x -> x.first(3, 4));
    }

    private static void whatThrowsChangesNothing() {
        CHECK.about("A call that throws changes nothing.");
        CHECK.dueText("there is something to change", Examples.found(solved()), FOUND);
        refusedCallsKeep(ChangeBoundaryTest::solved);
    }

    private static void whatThrowsAtFortyChangesNothing() {
        CHECK.about("A call that throws changes nothing.");
        Supplier<WeightedClauses> full = () -> {
            WeightedClauses x = Examples.full(2, 3);
            x.solve();
            return x;
        };
        refusedCallsKeep(full);
        keeps("clause, soft, at 40", "IllegalStateException", full, x -> x.clause(1, 1, -1, -1, -1));
        keeps("clause, hard, at 40", "IllegalStateException", full, x -> x.clause(0, 1, 3, -1, -1));
    }

    private static void whatThrowsBeforeASearchChangesNothing() {
        CHECK.about("A call that throws changes nothing.");
        refusedCallsKeep(Examples::twoVariables);
        refusedCallsKeep(() -> new WeightedClauses(2));
    }

    private static void ends(String what, Use use) {
        WeightedClauses x = solved();
        use.answer(x);
        CHECK.dueText(what, Examples.found(x), NOTHING);
        x.solve();
        CHECK.due(what + ", searched again", x.nodes() > 0 ? 1 : 0, 1);
    }

    private static void whatChangesClausesEndsWhatWasFound() {
        CHECK.about("Whatever changes clauses ends what was found.");
        ends("a soft clause more", x -> x.clause(1, 0, -1, -1, -1));
        ends("a hard clause more", x -> x.clause(0, 0, 2, -1, -1));
        ends("the same clause once more", x -> x.clause(4, 0, -1, -1, -1));
        ends("a clause less", x -> x.drop());
        ends("no clause any more", x -> x.drop() + x.drop() + x.drop());
        ends("another weight", x -> x.weigh(0, 5));
        ends("a hard one now", x -> x.weigh(2, 0));
        ends("the same weight", x -> x.weigh(2, 1));
        ends("there and back", x -> x.clause(1, 0, -1, -1, -1) + x.drop());
        WeightedClauses x = solved();
        x.weigh(1, 4);
        x.solve();
        CHECK.dueText("the same is found again", Examples.found(x), FOUND);
    }

    private static void whatChangesClausesEndsAHopelessSearch() {
        CHECK.about("Whatever changes clauses ends what was found.");
        Use[] changes = {x -> x.clause(1, 0, -1, -1, -1), x -> x.drop(), x -> x.weigh(0, 0), x -> x.weigh(1, 1)};
        for (Use change : changes) {
            WeightedClauses x = Examples.contradiction(2);
            x.solve();
            CHECK.dueText("a hopeless one", Examples.found(x), "values -1 -1 nodes 1 logged 1 0/0/-1 -1/-1/-1");
            change.answer(x);
            CHECK.dueText("it ended", Examples.found(x), NOTHING);
        }
    }

    private static void whatChangesNoClauseEndsNothing() {
        CHECK.about("Whatever changes clauses ends what was found.");
        WeightedClauses x = solved();
        Examples.ofAllStates(x);
        CHECK.dueText("questions", Examples.found(x), FOUND);
        x.solve();
        CHECK.dueText("another search", Examples.found(x), FOUND);
        WeightedClauses none = new WeightedClauses(2);
        none.solve();
        String found = Examples.found(none);
        CHECK.due("nothing to drop", none.drop(), -1);
        CHECK.dueText("drop() without a clause changes none", Examples.found(none), found);
    }
}
