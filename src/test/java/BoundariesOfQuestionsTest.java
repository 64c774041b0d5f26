import java.util.LinkedHashMap;
import java.util.List;
import java.util.Map;
import java.util.function.Consumer;

/** Promises 11 to 15, and what Terms says about questions. */
public final class BoundariesOfQuestionsTest {
    private static final int NONE = GoalOrder.NONE;
    private static final Due DUE = new Due();

    public static void main(String[] args) {
        Sentences.run(BoundariesOfQuestionsTest.class, DUE);
    }

    private static GoalOrder mixed() {
        GoalOrder g = new GoalOrder();
        Trees.putInMixed(g);
        return g;
    }

    private static GoalOrder mixedInOrder() {
        GoalOrder g = mixed();
        DUE.is("order()", g.order(), 0);
        return g;
    }

    // Terms

    /** The tree is one atom whose answers all differ from those without an ordering. */
    private static GoalOrder oneForm() {
        GoalOrder g = new GoalOrder();
        g.predicate(1);
        g.given(1, true);
        Sorts.add(g, 0, Sorts.FORM, 1, 1);
        return g;
    }

    private static void dueAnswers(String when, GoalOrder g, boolean ordered) {
        DUE.is("part(0, 0) " + when, g.part(0, 0), ordered ? 1 : NONE);
        DUE.is("node(1, -1) " + when, g.node(1, -1), ordered ? 1 : NONE);
        DUE.is("compared(1, 1) " + when, g.compared(1, 1), ordered);
        DUE.is("ground(0, 1) " + when, g.ground(0, 1), ordered);
        DUE.is("ground(1, 1) " + when, g.ground(1, 1), ordered);
    }

    private static void dueBehind(String what, Consumer<GoalOrder> calls, boolean ordered) {
        GoalOrder g = oneForm();
        DUE.is("order()", g.order(), 0);
        dueAnswers("ahead of " + what, g, true);
        calls.accept(g);
        dueAnswers("behind " + what, g, ordered);
    }

    @Sentence(in = "Terms", says = "Questions are about the latest ORDERING of this tree that was 0")
    static void withoutAnOrderingThereIsNoAnswer() {
        dueAnswers("before any", oneForm(), false);
        dueBehind("nothing", g -> { }, true);
        dueBehind("another order()", GoalOrder::order, true);
    }

    @Sentence(in = "Terms", says = "a change of it, of what is GIVEN or WANTED, a new MODE, and an ORDERING with a FAULT leave none.")
    static void aChangeOfTheTreeLeavesNone() {
        dueBehind("an empty row", g -> g.add(0, Sorts.ROW, 0), false);
        dueBehind("an atom", g -> g.add(0, Sorts.TRUE, 0), false);
        dueBehind("clear()", g -> {
            g.clear();
            g.given(1, true);
            Sorts.add(g, 0, Sorts.FORM, 1, 1);
        }, false);
    }

    @Sentence(in = "Terms", says = "a change of it, of what is GIVEN or WANTED, a new MODE, and an ORDERING with a FAULT leave none.")
    static void aChangeOfWhatIsGivenOrWantedLeavesNone() {
        dueBehind("given(0, true)", g -> g.given(0, true), false);
        dueBehind("given(59, true)", g -> g.given(59, true), false);
        dueBehind("given(1, false)", g -> g.given(1, false), false);
        dueBehind("given() and back", g -> {
            g.given(1, false);
            g.given(1, true);
        }, false);
        dueBehind("wanted(0, true)", g -> g.wanted(0, true), false);
        dueBehind("wanted(59, true)", g -> g.wanted(59, true), false);
        dueBehind("wanted() and back", g -> {
            g.wanted(1, true);
            g.wanted(1, false);
        }, false);
    }

    @Sentence(in = "Terms", says = "a change of it, of what is GIVEN or WANTED, a new MODE, and an ORDERING with a FAULT leave none.")
    static void aNewModeLeavesNone() {
        dueBehind("a mode of what isn't called", g -> g.mode(0, 0), false);
        dueBehind("a predicate alone", g -> g.predicate(0), true);
        dueBehind("a mode of no predicate", g -> g.mode(1, 0), true);
        dueBehind("a fifth mode", g -> {
            for (int mode = 0; mode < 4; mode++) {
                g.mode(0, 0);
            }
            g.order();
            g.mode(0, 0);
        }, true);
    }

    @Sentence(in = "Terms", says = "a change of it, of what is GIVEN or WANTED, a new MODE, and an ORDERING with a FAULT leave none.")
    static void anOrderingWithAFaultLeavesNone() {
        dueBehind("FAULT 2", g -> {
            g.wanted(0, true);
            DUE.is("order()", g.order(), 2);
        }, false);
        dueBehind("FAULT 1", g -> {
            g.add(0, Sorts.NOT, 0);
            DUE.is("order()", g.order(), 1);
        }, false);
        GoalOrder g = Trees.heavy(38);
        DUE.is("20,000 tries", g.order(), 0);
        DUE.is("a part", g.part(0, 0), 33);
        DUE.is("a way", g.node(33, -1), 0);
        g.add(0, Sorts.TRUE, 0);
        DUE.is("20,001 tries", g.order(), 3);
        DUE.is("no part", g.part(0, 0), NONE);
        DUE.is("no part of the first row", g.part(1, 0), NONE);
        DUE.is("no way", g.node(33, -1), NONE);
        DUE.is("not ground", g.ground(2, 0), false);
    }

    @Sentence(in = "Terms", says = "a change of it, of what is GIVEN or WANTED, a new MODE, and an ORDERING with a FAULT leave none.")
    static void whatIsRefusedLeavesIt() {
        Map<String, Consumer<GoalOrder>> refused = new LinkedHashMap<>();
        refused.put("given(1, true)", g -> g.given(1, true));
        refused.put("given(0, false)", g -> g.given(0, false));
        refused.put("given(60, true)", g -> g.given(60, true));
        refused.put("wanted(1, false)", g -> g.wanted(1, false));
        refused.put("wanted(-1, true)", g -> g.wanted(-1, true));
        refused.put("add(1, 4, 0)", g -> g.add(1, Sorts.TRUE, 0));
        refused.put("add(0, 13, 0)", g -> g.add(0, 13, 0));
        refused.put("add() with a row too long", g -> Sorts.add(g, 0, Sorts.TRUE, 1));
        refused.put("predicate(7)", g -> g.predicate(7));
        refused.put("put(1)", g -> g.put(1));
        refused.put("put(60)", g -> g.put(60));
        for (Map.Entry<String, Consumer<GoalOrder>> one : refused.entrySet()) {
            dueBehind(one.getKey(), one.getValue(), true);
        }
    }

    @Sentence(in = "Terms", says = "If more than 20,000 times a NODE would be TRIED: FAULT 3.")
    static void whatIsRefusedBehindFault3ChangesNothing() {
        Consumer<GoalOrder> before = Trees::putInTooHeavy;
        Consumer<GoalOrder> refused = g -> {
            g.predicate(7);
            g.mode(0, 0);
            g.put(60);
            g.add(2, Sorts.TRUE, 0);
            g.given(0, false);
            g.wanted(0, false);
        };
        DUE.alike("refused calls behind FAULT 3", State.behind(before.andThen(refused)), State.behind(before));
    }

    // Promise 11

    @Sentence(in = "Promise 11", says = "NONE when it has none such, or it was not ORDERED.")
    static void promise11NoneWhenItHasNoneSuch() {
        GoalOrder g = mixedInOrder();
        for (int node = 0; node <= 10; node++) {
            int parts = g.node(node, 1);
            DUE.is("just ahead of the first of " + node, g.part(node, -1), NONE);
            DUE.is("just behind the last of " + node, g.part(node, parts), NONE);
            if (parts > 0) {
                DUE.is("the first of " + node + " is there", g.part(node, 0) > node, true);
                DUE.is("the last of " + node + " is there", g.part(node, parts - 1) > node, true);
            }
        }
        g = mixedInOrder();
        for (int node = 0; node <= 4; node++) {
            for (int k : Edges.outside(0, 3)) {
                DUE.is("part(" + node + ", " + k + ")", g.part(node, k), NONE);
            }
        }
    }

    @Sentence(in = "Promise 11", says = "NONE when it has none such, or it was not ORDERED.")
    static void promise11NoneWhenThereIsNoSuchNode() {
        GoalOrder g = mixedInOrder();
        DUE.is("nodes 0 .. 10", g.node(10, 0) != NONE && g.node(11, 0) == NONE, true);
        for (int node : Edges.outside(0, 10)) {
            DUE.is("part(" + node + ", 0)", g.part(node, 0), NONE);
        }
    }

    @Sentence(in = "Promise 11", says = "The k-th PART of a NODE in its ORDER (of others than ROWS: as put in)")
    static void promise11OfOthersThanRowsAsPutIn() {
        GoalOrder g = new GoalOrder();
        int row = g.add(0, Sorts.ROW, 0);
        int choice = g.add(0, Sorts.CHOICE, 0);
        int[] ofRow = new int[100];
        int[] ofChoice = new int[100];
        for (int k = 0; k < 100; k++) {
            ofRow[k] = k < 99 ? Sorts.add(g, row, Sorts.TRUE) : Sorts.add(g, row, Sorts.FAIL);
            ofChoice[k] = g.add(choice, Sorts.FAIL, 0);
        }
        DUE.is("order()", g.order(), 0);
        for (int k = 0; k < 100; k++) {
            DUE.is("of the row, as done", g.part(row, k), ofRow[k]);
            DUE.is("of the choice, as put in", g.part(choice, k), ofChoice[k]);
        }
    }

    @Sentence(in = "Promise 11", says = "or it was not ORDERED.")
    static void promise11NoneWhenItWasNotOrdered() {
        GoalOrder g = mixed();
        for (int node = 0; node <= 10; node++) {
            for (int k = 0; k <= 3; k++) {
                DUE.is("part(" + node + ", " + k + ")", g.part(node, k), NONE);
            }
        }
    }

    // Promise 12

    @Sentence(in = "Promise 12", says = "Of a NODE: its SORT (what 0), how many PARTS (1), how many variables (2), these (3 and more)")
    static void promise12TheFewestAndTheMostVariables() {
        int[] fewest = {0, 0, 0, 0, 0, 0, 2, 2, 1, 1, 1, 0, 0};
        int[] most = {0, 0, 0, 0, 0, 0, 2, 2, 5, 1, 7, 6, 6};
        for (int sort = 0; sort <= 12; sort++) {
            for (int many : new int[] {fewest[sort], most[sort]}) {
                GoalOrder g = new GoalOrder();
                g.predicate(many > 6 ? 6 : many);
                int[] row = new int[many];
                for (int k = 0; k < many; k++) {
                    row[k] = k % 2 == 0 ? 59 : 0;
                }
                DUE.is("number", Sorts.call(g, 0, sort, 0, row), 1);
                DUE.is("sort", g.node(1, 0), sort);
                DUE.is("parts", g.node(1, 1), 0);
                DUE.is("variables", g.node(1, 2), many);
                for (int k = 0; k < many; k++) {
                    DUE.is("variable " + k, g.node(1, 3 + k), row[k]);
                }
                DUE.is("behind the last", g.node(1, 3 + many), NONE);
            }
        }
    }

    @Sentence(in = "Promise 12", says = "how many PARTS (1)")
    static void promise12HowManyParts() {
        GoalOrder g = new GoalOrder();
        for (int node = 0; node < 249; node++) {
            DUE.is("parts", g.node(0, 1), node);
            g.add(0, Sorts.TRUE, 0);
        }
        DUE.is("the most", g.node(0, 1), 249);
        g.add(0, Sorts.TRUE, 0);
        DUE.is("not one more", g.node(0, 1), 249);
    }

    @Sentence(in = "Promise 12", says = "NONE when there is none such.")
    static void promise12NoneWhenThereIsNoSuchWhat() {
        for (int ordered = 0; ordered < 2; ordered++) {
            GoalOrder g = ordered == 0 ? mixed() : mixedInOrder();
            for (int node = 0; node <= 10; node++) {
                int many = g.node(node, 2);
                for (int what : Edges.outside(-1, 2 + many)) {
                    DUE.is("node(" + node + ", " + what + ")", g.node(node, what), NONE);
                }
            }
        }
    }

    @Sentence(in = "Promise 12", says = "NONE when there is none such.")
    static void promise12NoneWhenWhatWrapsAround() {
        GoalOrder g = new GoalOrder();
        Trees.fillRow(g);
        g.add(0, Sorts.SUM, 0);
        for (int k = -3; k <= 12; k++) {
            int low = Integer.MIN_VALUE + 3 + k;
            int high = Integer.MAX_VALUE - 12 + k;
            DUE.is("node(1, " + low + ")", g.node(1, low), NONE);
            DUE.is("node(1, " + high + ")", g.node(1, high), NONE);
        }
    }

    @Sentence(in = "Promise 12", says = "NONE when there is none such.")
    static void promise12NoneWhenThereIsNoSuchNode() {
        GoalOrder g = mixedInOrder();
        for (int node : Edges.outside(0, 10)) {
            for (int what = -1; what <= 4; what++) {
                DUE.is("node(" + node + ", " + what + ")", g.node(node, what), NONE);
            }
        }
    }

    @Sentence(in = "Promise 12", says = "of an ATOM behind an ORDERING that was 0 also its WAY (-1).")
    static void promise12TheWayOfAnAtomBehindAnOrderingThatWas0() {
        GoalOrder g = mixed();
        for (int node = 0; node <= 10; node++) {
            DUE.is("before, of " + node, g.node(node, -1), NONE);
        }
        DUE.is("order()", g.order(), 0);
        int[] ways = {NONE, 1, NONE, NONE, NONE, 1, 1, 1, 2, 2, 3};
        for (int node = 0; node <= 10; node++) {
            DUE.is("behind 0, of " + node, g.node(node, -1), ways[node]);
        }
        g.wanted(59, true);
        DUE.is("order()", g.order(), 2);
        for (int node = 0; node <= 10; node++) {
            DUE.is("behind a fault, of " + node, g.node(node, -1), NONE);
        }
    }

    @Sentence(in = "Promise 12", says = "of an ATOM behind an ORDERING that was 0 also its WAY (-1).")
    static void promise12TheLeastAndTheLargestWay() {
        GoalOrder g = new GoalOrder();
        g.predicate(1);
        for (int mode = 0; mode < 4; mode++) {
            g.mode(0, mode == 3 ? 1 : 0);
        }
        int call = Sorts.call(g, 0, Sorts.CALL, 0, 5);
        DUE.is("order()", g.order(), 0);
        DUE.is("the last mode", g.node(call, -1), 3);
        g.given(5, true);
        DUE.is("order()", g.order(), 0);
        DUE.is("the first mode", g.node(call, -1), 0);
    }

    // Promise 13

    /** A form of five, of which all but x are compared. */
    private static GoalOrder allCompared() {
        GoalOrder g = new GoalOrder();
        g.given(1, true);
        Sorts.add(g, 0, Sorts.FORM, 1, 1, 1, 1, 1);
        return g;
    }

    @Sentence(in = "Promise 13", says = "Whether the k-th variable of an ATOM's row is COMPARED.")
    static void promise13TheFirstAndTheLast() {
        GoalOrder g = allCompared();
        DUE.is("order()", g.order(), 0);
        DUE.is("x", g.compared(1, 0), false);
        DUE.is("the first behind it", g.compared(1, 1), true);
        DUE.is("the last", g.compared(1, 4), true);
        g.clear();
        g.predicate(6);
        g.mode(0, 63);
        Sorts.call(g, 0, Sorts.CALL, 0, 0, 0, 0, 0, 0, 59);
        g.given(59, true);
        DUE.is("order()", g.order(), 0);
        DUE.is("the first of a call", g.compared(1, 0), false);
        DUE.is("the second", g.compared(1, 1), true);
        DUE.is("the last", g.compared(1, 5), true);
        g.given(0, true);
        DUE.is("order()", g.order(), 0);
        DUE.is("the first, ground ahead", g.compared(1, 0), true);
    }

    @Sentence(in = "Promise 13", says = "False when there is none such, or it was not ORDERED.")
    static void promise13FalseWhenThereIsNoneSuch() {
        GoalOrder g = allCompared();
        DUE.is("order()", g.order(), 0);
        for (int k : Edges.outside(0, 4)) {
            DUE.is("compared(1, " + k + ")", g.compared(1, k), false);
        }
        for (int node : Edges.outside(1, 1)) {
            DUE.is("compared(" + node + ", 1)", g.compared(node, 1), false);
        }
        g.clear();
        g.predicate(6);
        g.mode(0, -1);
        Sorts.call(g, 0, Sorts.CALL, 0, 0, 0, 0, 0, 0, 0);
        DUE.is("order()", g.order(), 0);
        for (int k : Edges.outside(0, 5)) {
            DUE.is("of a call, " + k, g.compared(1, k), false);
        }
    }

    @Sentence(in = "Promise 13", says = "False when there is none such, or it was not ORDERED.")
    static void promise13FalseForACallOfLessThanItsBits() {
        for (int arguments = 0; arguments <= 6; arguments++) {
            GoalOrder g = new GoalOrder();
            g.predicate(arguments);
            g.mode(0, -1);
            Sorts.call(g, 0, Sorts.CALL, 0, new int[arguments]);
            g.given(0, true);
            DUE.is("order()", g.order(), 0);
            for (int k = -1; k <= 33; k++) {
                DUE.is(k + " of " + arguments, g.compared(1, k), k >= 0 && k < arguments);
            }
        }
    }

    @Sentence(in = "Promise 13", says = "False when there is none such, or it was not ORDERED.")
    static void promise13FalseWhenItWasNotOrdered() {
        GoalOrder g = allCompared();
        for (int k = 0; k < 5; k++) {
            DUE.is("before, " + k, g.compared(1, k), false);
        }
        DUE.is("order()", g.order(), 0);
        DUE.is("ordered", g.compared(1, 4), true);
        g.wanted(0, true);
        DUE.is("order()", g.order(), 2);
        for (int k = 0; k < 5; k++) {
            DUE.is("behind a fault, " + k, g.compared(1, k), false);
        }
    }

    // Promise 14

    @Sentence(in = "Promise 14", says = "Whether a variable is GROUND ahead of a NODE, as it is done.")
    static void promise14AsItIsDone() {
        GoalOrder g = new GoalOrder();
        for (int x = 0; x < 60; x++) {
            Sorts.add(g, 0, Sorts.NUMBER, 59 - x);
        }
        DUE.is("order()", g.order(), 0);
        for (int x = 0; x < 60; x++) {
            DUE.is("ahead of all, " + x, g.ground(0, x), false);
            DUE.is("ahead of the last, " + x, g.ground(60, x), x != 0);
            DUE.is("ahead of the first, " + x, g.ground(1, x), false);
            DUE.is("ahead of the second, " + x, g.ground(2, x), x == 59);
        }
    }

    @Sentence(in = "Promise 14", says = "False when there is none such, or it was not ORDERED.")
    static void promise14FalseWhenThereIsNoneSuch() {
        GoalOrder g = new GoalOrder();
        for (int x = 0; x < 60; x++) {
            g.given(x, true);
        }
        g.add(0, Sorts.TRUE, 0);
        DUE.is("order()", g.order(), 0);
        for (int x : Edges.outside(0, 59)) {
            DUE.is("ground(0, " + x + ")", g.ground(0, x), false);
            DUE.is("ground(1, " + x + ")", g.ground(1, x), false);
        }
        for (int node : Edges.outside(0, 1)) {
            DUE.is("ground(" + node + ", 0)", g.ground(node, 0), false);
            DUE.is("ground(" + node + ", 59)", g.ground(node, 59), false);
        }
        DUE.is("the least", g.ground(1, 0), true);
        DUE.is("the largest", g.ground(1, 59), true);
    }

    @Sentence(in = "Promise 14", says = "False when there is none such, or it was not ORDERED.")
    static void promise14FalseWhenItWasNotOrdered() {
        GoalOrder g = new GoalOrder();
        g.given(0, true);
        g.given(59, true);
        DUE.is("before, the least", g.ground(0, 0), false);
        DUE.is("before, the largest", g.ground(0, 59), false);
        g.wanted(1, true);
        DUE.is("order()", g.order(), 2);
        DUE.is("behind a fault", g.ground(0, 0), false);
        g.given(1, true);
        DUE.is("order()", g.order(), 0);
        DUE.is("ordered", g.ground(0, 0), true);
    }

    // Promise 15

    @Sentence(in = "Promise 15", says = "Whether a variable is OUTER of a NODE.")
    static void promise15WithAndWithoutAnOrdering() {
        GoalOrder g = new GoalOrder();
        Sorts.add(g, 0, Sorts.COMPARE, 0, 59);
        g.add(0, Sorts.TRUE, 0);
        for (int fault : new int[] {NONE, 1, 0}) {
            DUE.is("the least, " + fault, g.outer(2, 0), true);
            DUE.is("the largest, " + fault, g.outer(2, 59), true);
            DUE.is("of its own atom, " + fault, g.outer(1, 0), false);
            DUE.is("another one, " + fault, g.outer(2, 1), false);
            if (fault == NONE) {
                DUE.is("order()", g.order(), 1);
            } else if (fault == 1) {
                g.given(0, true);
                g.given(59, true);
                DUE.is("order()", g.order(), 0);
            }
        }
    }

    @Sentence(in = "Promise 15", says = "False when there is none such.")
    static void promise15FalseWhenThereIsNoneSuch() {
        GoalOrder g = new GoalOrder();
        g.add(0, Sorts.TRUE, 0);
        for (int x = 0; x < 60; x++) {
            g.wanted(x, true);
        }
        for (int x : Edges.outside(0, 59)) {
            DUE.is("outer(0, " + x + ")", g.outer(0, x), false);
            DUE.is("outer(1, " + x + ")", g.outer(1, x), false);
        }
        for (int node : Edges.outside(0, 1)) {
            DUE.is("outer(" + node + ", 0)", g.outer(node, 0), false);
            DUE.is("outer(" + node + ", 59)", g.outer(node, 59), false);
        }
        DUE.is("the least", g.outer(1, 0), true);
        DUE.is("the largest", g.outer(1, 59), true);
    }

    @Sentence(in = "Promise 15", says = "Whether a variable is OUTER of a NODE.")
    static void promise15OfAFullTree() {
        GoalOrder g = new GoalOrder();
        for (int node = 1; node < 249; node++) {
            g.add(0, Sorts.TRUE, 0);
        }
        Sorts.add(g, 0, Sorts.NUMBER, 59);
        DUE.is("of node 0", g.outer(0, 59), false);
        DUE.is("of the first", g.outer(1, 59), true);
        DUE.is("of the last but one", g.outer(248, 59), true);
        DUE.is("of the last", g.outer(249, 59), false);
        DUE.is("of none", g.outer(250, 59), false);
    }

    // All of them

    @Sentence(in = "Not promised", says = "Nothing is promised beyond the answers and state changes described above")
    static void noQuestionChangesAnything() {
        Consumer<GoalOrder> questions = g -> {
            for (int node : new int[] {Integer.MIN_VALUE, -1, 0, 3, 5, 11, Integer.MAX_VALUE}) {
                for (int k : new int[] {Integer.MIN_VALUE, -1, 0, 2, 59, Integer.MAX_VALUE}) {
                    g.part(node, k);
                    g.node(node, k);
                    g.compared(node, k);
                    g.ground(node, k);
                    g.outer(node, k);
                }
            }
            g.stuck();
        };
        for (Map.Entry<String, Consumer<GoalOrder>> state : Trees.states().entrySet()) {
            List<String> due = State.behind(state.getValue());
            DUE.alike("questions behind " + state.getKey(), State.behind(state.getValue().andThen(questions)), due);
        }
    }
}
