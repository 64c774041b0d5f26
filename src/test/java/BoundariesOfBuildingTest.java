import java.util.List;
import java.util.Map;
import java.util.function.Consumer;

/** Promises 1 to 8: each sentence that names a boundary, and what a refused call leaves as it was. */
public final class BoundariesOfBuildingTest {
    private static final int NONE = GoalOrder.NONE;
    private static final Due DUE = new Due();

    public static void main(String[] args) {
        Sentences.run(BoundariesOfBuildingTest.class, DUE);
    }

    /** In each state: a run of calls that are refused comes to the same state as none. */
    private static void changesNothing(String what, Consumer<GoalOrder> refused) {
        for (Map.Entry<String, Consumer<GoalOrder>> state : Trees.states().entrySet()) {
            Consumer<GoalOrder> before = state.getValue();
            DUE.alike(what + " behind " + state.getKey(), State.behind(before.andThen(refused)), State.behind(before));
        }
    }

    /** In each state: a refused add() empties the row and changes nothing else. */
    private static void emptiesTheRowAlone(String what, Consumer<GoalOrder> refused) {
        Map<String, Consumer<GoalOrder>> states = Trees.states();
        for (String name : List.of("a new object", "a tree", "an ordered tree", "fault 1")) {
            Consumer<GoalOrder> before = states.get(name);
            List<String> due = State.behind(before);
            DUE.alike(what + " behind " + name, State.behind(before.andThen(refused)), due);
            DUE.alike(what + " with a row behind " + name,
                State.behind(before.andThen(Trees::putRow).andThen(refused)), due);
        }
    }

    // Promise 1

    @Sentence(in = "Promise 1", says = "No PREDICATES; NODE 0 alone; nothing GIVEN or WANTED; the row is empty.")
    static void promise1NoPredicates() {
        GoalOrder g = new GoalOrder();
        for (int predicate = -1; predicate <= 60; predicate++) {
            DUE.is("mode(" + predicate + ", 0)", g.mode(predicate, 0), NONE);
            DUE.is("a call of " + predicate, g.add(0, Sorts.CALL, predicate), NONE);
        }
        DUE.is("the first one", g.predicate(0), 0);
    }

    @Sentence(in = "Promise 1", says = "No PREDICATES; NODE 0 alone; nothing GIVEN or WANTED; the row is empty.")
    static void promise1Node0Alone() {
        GoalOrder g = new GoalOrder();
        DUE.is("a row", g.node(0, 0), Sorts.ROW);
        DUE.is("no parts", g.node(0, 1), 0);
        DUE.is("no variables", g.node(0, 2), 0);
        DUE.is("none of them", g.node(0, 3), NONE);
        DUE.is("no way", g.node(0, -1), NONE);
        for (int node : Edges.outside(0, 0)) {
            DUE.is("no node " + node, g.node(node, 0), NONE);
            DUE.is("no parts of " + node, g.node(node, 1), NONE);
            DUE.is("no part of " + node, g.part(node, 0), NONE);
        }
        DUE.is("can be done", g.order(), 0);
        DUE.is("the next node", g.add(0, Sorts.TRUE, 0), 1);
    }

    @Sentence(in = "Promise 1", says = "No PREDICATES; NODE 0 alone; nothing GIVEN or WANTED; the row is empty.")
    static void promise1NothingGivenOrWanted() {
        GoalOrder g = new GoalOrder();
        for (int x = 0; x < 60; x++) {
            DUE.is("given(" + x + ", false)", g.given(x, false), false);
            DUE.is("wanted(" + x + ", false)", g.wanted(x, false), false);
            DUE.is("outer(0, " + x + ")", g.outer(0, x), false);
        }
        DUE.is("can be done", g.order(), 0);
        for (int x = 0; x < 60; x++) {
            DUE.is("ground(0, " + x + ")", g.ground(0, x), false);
        }
    }

    @Sentence(in = "Promise 1", says = "No PREDICATES; NODE 0 alone; nothing GIVEN or WANTED; the row is empty.")
    static void promise1TheRowIsEmpty() {
        DUE.is("what takes no row", new GoalOrder().add(0, Sorts.TRUE, 0), 1);
        DUE.is("what takes one at least", new GoalOrder().add(0, Sorts.SUM, 0), NONE);
        GoalOrder g = new GoalOrder();
        for (int k = 0; k < 7; k++) {
            DUE.is("room for " + k, g.put(k), true);
        }
        DUE.is("no room for 7", g.put(7), false);
    }

    @Sentence(in = "Promise 1", says = "No PREDICATES; NODE 0 alone; nothing GIVEN or WANTED; the row is empty.")
    static void promise1EachObjectIsAlone() {
        DUE.alike("beside another object", State.behind(g -> {
            GoalOrder other = new GoalOrder();
            Trees.putInMixed(other);
            other.order();
            Trees.putRow(other);
        }), State.behind(g -> { }));
    }

    // Promise 2

    @Sentence(in = "Promise 2", says = "A new PREDICATE: its number")
    static void promise2ItsNumber() {
        GoalOrder g = new GoalOrder();
        for (int predicate = 0; predicate < 60; predicate++) {
            DUE.is("number", g.predicate(predicate % 7), predicate);
        }
    }

    @Sentence(in = "Promise 2", says = "NONE, refused, when there are 60")
    static void promise2RefusedWhenThereAre60() {
        GoalOrder g = new GoalOrder();
        for (int predicate = 0; predicate < 59; predicate++) {
            g.predicate(0);
        }
        DUE.is("the 60th", g.predicate(6), 59);
        for (int many = -1; many <= 7; many++) {
            DUE.is("the 61st of " + many, g.predicate(many), NONE);
        }
        DUE.is("the 60th has its six", Sorts.call(g, 0, Sorts.CALL, 59, 0, 1, 2, 3, 4, 5), 1);
        DUE.is("there is no 61st", g.add(0, Sorts.CALL, 60), NONE);
        DUE.is("nor a mode of it", g.mode(60, 0), NONE);
        g.clear();
        DUE.is("behind clear()", g.predicate(0), NONE);
    }

    @Sentence(in = "Promise 2", says = "NONE, refused, when there are 60")
    static void promise2The61stChangesNothing() {
        Consumer<GoalOrder> before = g -> {
            Trees.fillPredicates(g);
            g.mode(59, 1);
            Sorts.call(g, 0, Sorts.CALL, 59, 0, 1, 2);
            g.given(1, true);
            g.given(2, true);
            g.order();
        };
        DUE.alike("the 61st", State.behind(before.andThen(g -> g.predicate(3))), State.behind(before));
    }

    @Sentence(in = "Promise 2", says = "or many isn't 0 .. 6")
    static void promise2RefusedWhenManyIsnt0To6() {
        GoalOrder g = new GoalOrder();
        for (int many : Edges.outside(0, 6)) {
            DUE.is("predicate(" + many + ")", g.predicate(many), NONE);
        }
        DUE.is("the least", g.predicate(0), 0);
        DUE.is("the most", g.predicate(6), 1);
        DUE.is("just below", g.predicate(-1), NONE);
        DUE.is("just above", g.predicate(7), NONE);
        DUE.is("no number is lost", g.predicate(1), 2);
    }

    @Sentence(in = "Promise 2", says = "or many isn't 0 .. 6")
    static void promise2WhatIsRefusedChangesNothing() {
        changesNothing("predicate(-1)", g -> g.predicate(-1));
        changesNothing("predicate(7)", g -> g.predicate(7));
    }

    // Promise 3

    /** Which arguments are OUT, as bits: those that needn't be given when all others are. */
    private static int outsOf(int arguments, int outs) {
        GoalOrder g = new GoalOrder();
        g.predicate(arguments);
        g.mode(0, outs);
        int[] row = new int[arguments];
        for (int k = 0; k < arguments; k++) {
            row[k] = 10 + k;
            g.given(10 + k, true);
        }
        Sorts.call(g, 0, Sorts.CALL, 0, row);
        int found = 0;
        for (int k = 0; k < arguments; k++) {
            g.given(10 + k, false);
            found |= g.order() == 0 ? 1 << k : 0;
            g.given(10 + k, true);
        }
        return found;
    }

    @Sentence(in = "Promise 3", says = "the bits of outs, from the lowest on, tell which ARGUMENTS are OUT")
    static void promise3TheBitsFromTheLowestOn() {
        for (int arguments = 0; arguments <= 6; arguments++) {
            for (int outs = 0; outs < 1 << arguments; outs++) {
                DUE.is("of " + arguments + " by " + outs, outsOf(arguments, outs), outs);
            }
        }
    }

    @Sentence(in = "Promise 3", says = "(others beyond don't matter)")
    static void promise3OthersBeyondDontMatter() {
        for (int arguments = 0; arguments <= 6; arguments++) {
            int all = (1 << arguments) - 1;
            int some = 21 & all;
            DUE.is("all beyond, none of " + arguments, outsOf(arguments, ~all), 0);
            DUE.is("all beyond, all of " + arguments, outsOf(arguments, -1), all);
            DUE.is("all beyond, some of " + arguments, outsOf(arguments, ~all | some), some);
            DUE.is("just beyond " + arguments, outsOf(arguments, all + 1), 0);
            DUE.is("just beyond, with some of " + arguments, outsOf(arguments, all + 1 | some), some);
            DUE.is("the highest bit, with " + arguments, outsOf(arguments, Integer.MIN_VALUE), 0);
            DUE.is("all but the highest bit, with " + arguments, outsOf(arguments, Integer.MAX_VALUE), all);
        }
    }

    @Sentence(in = "Promise 3", says = "(others beyond don't matter)")
    static void promise3NoOutsIsRefused() {
        for (int outs : new int[] {0, 1, 63, 64, 127, -1, -64, Integer.MIN_VALUE, Integer.MAX_VALUE}) {
            GoalOrder g = new GoalOrder();
            g.predicate(6);
            DUE.is("mode(0, " + outs + ")", g.mode(0, outs), 0);
        }
    }

    @Sentence(in = "Promise 3", says = "tell which ARGUMENTS are OUT (others beyond don't matter): its number.")
    static void promise3ItsNumber() {
        GoalOrder g = new GoalOrder();
        g.predicate(2);
        g.predicate(2);
        for (int mode = 0; mode < 4; mode++) {
            DUE.is("of the first", g.mode(0, mode), mode);
            DUE.is("of the second", g.mode(1, 0), mode);
        }
    }

    @Sentence(in = "Promise 3", says = "NONE, refused, when there is no such PREDICATE")
    static void promise3RefusedWhenThereIsNoSuchPredicate() {
        GoalOrder g = new GoalOrder();
        DUE.is("without any", g.mode(0, 0), NONE);
        g.predicate(1);
        DUE.is("the first", g.mode(0, 0), 0);
        DUE.is("behind the last", g.mode(1, 0), NONE);
        Trees.fillPredicates(g);
        for (int predicate : Edges.outside(0, 59)) {
            DUE.is("mode(" + predicate + ", 0)", g.mode(predicate, 0), NONE);
        }
        DUE.is("the last", g.mode(59, 0), 0);
        DUE.is("the first again", g.mode(0, 0), 1);
    }

    @Sentence(in = "Promise 3", says = "NONE, refused, when there is no such PREDICATE")
    static void promise3NoSuchPredicateChangesNothing() {
        changesNothing("mode(-1, 1)", g -> g.mode(-1, 1));
        changesNothing("mode(2, 1)", g -> g.mode(2, 1));
        changesNothing("mode(60, 1)", g -> g.mode(60, 1));
        changesNothing("mode(MIN, 1)", g -> g.mode(Integer.MIN_VALUE, 1));
    }

    @Sentence(in = "Promise 3", says = "or it has 4")
    static void promise3RefusedWhenItHas4() {
        GoalOrder g = new GoalOrder();
        g.predicate(1);
        g.predicate(1);
        for (int mode = 0; mode < 3; mode++) {
            g.mode(0, 0);
        }
        DUE.is("the fourth", g.mode(0, 0), 3);
        DUE.is("the fifth", g.mode(0, 1), NONE);
        DUE.is("the fifth again", g.mode(0, 1), NONE);
        DUE.is("the other one has none yet", g.mode(1, 0), 0);
        g.clear();
        DUE.is("behind clear()", g.mode(0, 1), NONE);
        Sorts.call(g, 0, Sorts.CALL, 0, 1);
        DUE.is("what was refused can't be taken", g.order(), 1);
    }

    @Sentence(in = "Promise 3", says = "or it has 4")
    static void promise3AFifthChangesNothing() {
        for (int given = 0; given < 2; given++) {
            int start = given;
            Consumer<GoalOrder> before = g -> {
                g.predicate(2);
                g.predicate(1);
                for (int mode = 0; mode < 4; mode++) {
                    g.mode(0, mode == 3 ? 2 : 0);
                }
                Sorts.call(g, 0, Sorts.CALL, 0, 5, 6);
                g.given(5, start == 1);
                g.order();
                g.put(4);
            };
            DUE.alike("a fifth", State.behind(before.andThen(g -> g.mode(0, 3))), State.behind(before));
        }
    }

    // Promise 4

    private static void comesToNothing(String what, Consumer<GoalOrder> before, Consumer<GoalOrder> predicates) {
        DUE.alike("clear() behind " + what, State.behind(before.andThen(GoalOrder::clear)), State.behind(predicates));
    }

    @Sentence(in = "Promise 4", says = "The tree is NODE 0 alone again; nothing GIVEN or WANTED; the row is empty.")
    static void promise4AllButThePredicatesIsAsNew() {
        Map<String, Consumer<GoalOrder>> states = Trees.states();
        for (Map.Entry<String, Consumer<GoalOrder>> state : states.entrySet()) {
            boolean mixed = !state.getKey().contains("object");
            comesToNothing(state.getKey(), state.getValue(),
                mixed ? Trees::definePredicates : g -> { });
        }
    }

    @Sentence(in = "Promise 4", says = "The tree is NODE 0 alone again; nothing GIVEN or WANTED; the row is empty.")
    static void promise4OfWhatIsFull() {
        comesToNothing("a full tree", Trees::fillTree, g -> { });
        comesToNothing("a full row", Trees::fillRow, g -> { });
        comesToNothing("a tree 20 deep", g -> Trees.nest(g, Sorts.NOT, 20), g -> { });
        comesToNothing("an ordering with FAULT 3", Trees::putInTooHeavy, g -> { });
        comesToNothing("all given and wanted", g -> {
            for (int x = 0; x < 60; x++) {
                g.given(x, true);
                g.wanted(x, true);
            }
        }, g -> { });
        comesToNothing("all predicates", Trees::fillPredicates, Trees::fillPredicates);
    }

    @Sentence(in = "Promise 4", says = "The tree is NODE 0 alone again; nothing GIVEN or WANTED; the row is empty.")
    static void promise4TwiceIsAsOnce() {
        Consumer<GoalOrder> twice = GoalOrder::clear;
        comesToNothing("clear()", twice, g -> { });
        comesToNothing("a tree and clear()", twice.andThen(Trees::putInMixed).andThen(GoalOrder::clear),
            Trees::definePredicates);
    }

    @Sentence(in = "Promise 4", says = "The tree is NODE 0 alone again")
    static void promise4ThereIsRoomFor249Again() {
        GoalOrder g = new GoalOrder();
        Trees.fillTree(g);
        DUE.is("full", g.add(0, Sorts.TRUE, 0), NONE);
        g.clear();
        for (int node = 1; node < 250; node++) {
            DUE.is("numbers from 1 on", g.add(0, Sorts.FAIL, 0), node);
        }
        DUE.is("full again", g.add(0, Sorts.TRUE, 0), NONE);
    }

    @Sentence(in = "Promise 4", says = "The tree is NODE 0 alone again")
    static void promise4DepthBeginsAgain() {
        GoalOrder g = new GoalOrder();
        DUE.is("20 deep", Trees.nest(g, Sorts.ROW, 20), 20);
        g.clear();
        DUE.is("20 deep again", Trees.nest(g, Sorts.CHOICE, 20), 20);
        DUE.is("no deeper", g.add(20, Sorts.TRUE, 0), NONE);
    }

    @Sentence(in = "Promise 4", says = "The tree is NODE 0 alone again")
    static void promise4AnotherTreeInItsPlaceIsAsOnANewObject() {
        List<Consumer<GoalOrder>> trees = List.of(
            Trees::putInMixedTree,
            g -> Trees.nest(g, Sorts.NOT, 20),
            g -> Trees.nest(g, Sorts.TEST, 2),
            g -> Trees.nest(g, Sorts.CHOICE, 3),
            BoundariesOfBuildingTest::putInNumbers,
            BoundariesOfBuildingTest::putInTrues);
        Consumer<GoalOrder> predicates = Trees::definePredicates;
        for (int second = 0; second < trees.size(); second++) {
            List<String> due = State.behind(predicates.andThen(trees.get(second)));
            for (int first = 0; first < trees.size(); first++) {
                Consumer<GoalOrder> both = predicates.andThen(trees.get(first)).andThen(GoalOrder::order)
                    .andThen(GoalOrder::clear).andThen(trees.get(second));
                DUE.alike("tree " + second + " behind tree " + first, State.behind(both), due);
            }
        }
    }

    private static void putInNumbers(GoalOrder g) {
        for (int x = 0; x < 20; x++) {
            Sorts.add(g, 0, Sorts.NUMBER, x);
        }
    }

    private static void putInTrues(GoalOrder g) {
        for (int k = 0; k < 20; k++) {
            g.add(0, Sorts.TRUE, 0);
        }
    }

    // Promise 5

    @Sentence(in = "Promise 5", says = "One more variable comes to the row, at most 7")
    static void promise5AtMost7() {
        for (int many = 0; many <= 7; many++) {
            GoalOrder g = new GoalOrder();
            for (int k = 0; k < many; k++) {
                DUE.is("put " + k, g.put(59 - k), true);
            }
            int due = many == 0 ? NONE : 1;
            DUE.is("a sum of " + many, g.add(0, Sorts.SUM, 0), due);
            DUE.is("how many", g.node(1, 2), many == 0 ? NONE : many);
            for (int k = 0; k < 7; k++) {
                DUE.is("variable " + k, g.node(1, 3 + k), k < many ? 59 - k : NONE);
            }
        }
    }

    @Sentence(in = "Promise 5", says = "One more variable comes to the row, at most 7")
    static void promise5TheSameOneAgain() {
        GoalOrder g = new GoalOrder();
        for (int k = 0; k < 7; k++) {
            DUE.is("put " + k, g.put(0), true);
        }
        DUE.is("a sum", g.add(0, Sorts.SUM, 0), 1);
        DUE.is("of seven", g.node(1, 2), 7);
    }

    @Sentence(in = "Promise 5", says = "false, refused, when there are 7")
    static void promise5RefusedWhenThereAre7() {
        GoalOrder g = new GoalOrder();
        for (int k = 0; k < 6; k++) {
            g.put(k);
        }
        DUE.is("the seventh", g.put(6), true);
        for (int x = -1; x <= 60; x++) {
            DUE.is("the eighth, " + x, g.put(x), false);
        }
        g.add(0, Sorts.SUM, 0);
        for (int k = 0; k < 7; k++) {
            DUE.is("the row is as it was", g.node(1, 3 + k), k);
        }
        DUE.is("no eighth", g.node(1, 10), NONE);
        DUE.is("room again", g.put(0), true);
    }

    @Sentence(in = "Promise 5", says = "false, refused, when there are 7")
    static void promise5AnEighthChangesNothing() {
        for (Consumer<GoalOrder> tree : Trees.states().values()) {
            Consumer<GoalOrder> before = tree.andThen(Trees::fillRow);
            DUE.alike("an eighth", State.behind(before.andThen(g -> g.put(1))), State.behind(before));
        }
    }

    @Sentence(in = "Promise 5", says = "or x isn't 0 .. 59")
    static void promise5RefusedWhenXIsnt0To59() {
        GoalOrder g = new GoalOrder();
        for (int x : Edges.outside(0, 59)) {
            DUE.is("put(" + x + ")", g.put(x), false);
        }
        DUE.is("the least", g.put(0), true);
        DUE.is("just below", g.put(-1), false);
        DUE.is("just above", g.put(60), false);
        DUE.is("the largest", g.put(59), true);
        DUE.is("taken", g.add(0, Sorts.SAME, 0), 1);
        DUE.is("the first", g.node(1, 3), 0);
        DUE.is("the second", g.node(1, 4), 59);
    }

    @Sentence(in = "Promise 5", says = "or x isn't 0 .. 59")
    static void promise5WhatIsRefusedChangesNothing() {
        changesNothing("put(-1)", g -> g.put(-1));
        changesNothing("put(60)", g -> g.put(60));
    }

    // Promise 6

    @Sentence(in = "Promise 6", says = "A new NODE, the last PART of another one")
    static void promise6TheLastPartOfAnotherOne() {
        for (int sort = Sorts.ROW; sort <= Sorts.CHOICE; sort++) {
            GoalOrder g = new GoalOrder();
            int whole = g.add(0, sort, 0);
            for (int k = 0; k < 3; k++) {
                int part = g.add(whole, Sorts.TRUE, 0);
                g.add(0, Sorts.TRUE, 0);
                DUE.is("number", part, 2 + 2 * k);
                DUE.is("one more part", g.node(whole, 1), k + 1);
                DUE.is("in order", g.order(), 0);
                DUE.is("the last one", g.part(whole, k), part);
            }
        }
    }

    @Sentence(in = "Promise 6", says = "the row its variables (empty then, also when it is refused)")
    static void promise6TheRowIsEmptyThen() {
        GoalOrder g = new GoalOrder();
        Trees.fillRow(g);
        DUE.is("taken", g.add(0, Sorts.SUM, 0), 1);
        DUE.is("what takes one at least", g.add(0, Sorts.SUM, 0), NONE);
        DUE.is("what takes none", g.add(0, Sorts.TRUE, 0), 2);
        DUE.is("no variable", g.node(2, 2), 0);
        for (int k = 0; k < 7; k++) {
            DUE.is("room for " + k, g.put(k), true);
        }
        DUE.is("the first node keeps its own", g.node(1, 3), 50);
    }

    @Sentence(in = "Promise 6", says = "(empty then, also when it is refused)")
    static void promise6EmptyAlsoWhenItIsRefused() {
        emptiesTheRowAlone("parent -1", g -> g.add(-1, Sorts.NUMBER, 0));
        emptiesTheRowAlone("a parent beyond", g -> g.add(250, Sorts.NUMBER, 0));
        emptiesTheRowAlone("sort -1", g -> g.add(0, -1, 0));
        emptiesTheRowAlone("sort 13", g -> g.add(0, 13, 0));
        emptiesTheRowAlone("a call of -1", g -> g.add(0, Sorts.CALL, -1));
        emptiesTheRowAlone("a call of 60", g -> g.add(0, Sorts.CALL, 60));
        emptiesTheRowAlone("a row of the wrong length", g -> g.add(0, Sorts.SAME, 0));
    }

    @Sentence(in = "Promise 6", says = "(empty then, also when it is refused)")
    static void promise6AFullParentEmptiesTheRowAlone() {
        Consumer<GoalOrder> before = g -> {
            Trees.putInMixed(g);
            g.order();
        };
        List<String> due = State.behind(before);
        Consumer<GoalOrder> withRow = before.andThen(Trees::putRow);
        DUE.alike("a test with three", State.behind(withRow.andThen(g -> g.add(3, Sorts.COMPARE, 0))), due);
        DUE.alike("a not with one", State.behind(withRow.andThen(g -> g.add(4, Sorts.COMPARE, 0))), due);
        DUE.alike("an atom", State.behind(withRow.andThen(g -> g.add(5, Sorts.COMPARE, 0))), due);
        Consumer<GoalOrder> deep = g -> {
            Trees.nest(g, Sorts.ROW, 20);
            g.order();
        };
        Consumer<GoalOrder> deepWithRow = deep.andThen(Trees::putRow);
        DUE.alike("20 deep", State.behind(deepWithRow.andThen(g -> g.add(20, Sorts.COMPARE, 0))), State.behind(deep));
    }

    @Sentence(in = "Promise 6", says = "NONE, refused, when there are 250")
    static void promise6RefusedWhenThereAre250() {
        GoalOrder g = new GoalOrder();
        g.predicate(0);
        for (int node = 1; node < 249; node++) {
            DUE.is("number", g.add(0, Sorts.ROW, 0), node);
        }
        DUE.is("the 250th", g.add(248, Sorts.ROW, 0), 249);
        for (int parent : new int[] {0, 1, 248, 249, 250}) {
            DUE.is("the 251st, of " + parent, g.add(parent, Sorts.TRUE, 0), NONE);
        }
        int[] rows = {0, 0, 0, 0, 0, 0, 2, 2, 1, 1, 1, 0, 0};
        for (int sort = 0; sort <= 12; sort++) {
            DUE.is("the 251st, sort " + sort, Sorts.call(g, 0, sort, 0, new int[rows[sort]]), NONE);
        }
        DUE.is("no node 250", g.node(250, 0), NONE);
        DUE.is("the parts of node 0", g.node(0, 1), 248);
        DUE.is("the parts of node 248", g.node(248, 1), 1);
        DUE.is("none of node 249", g.node(249, 1), 0);
    }

    @Sentence(in = "Promise 6", says = "NONE, refused, when there are 250")
    static void promise6The251stEmptiesTheRowAlone() {
        Consumer<GoalOrder> before = g -> {
            Trees.fillTree(g);
            g.order();
        };
        Consumer<GoalOrder> refused = g -> Sorts.add(g, 0, Sorts.COMPARE, 1, 2);
        DUE.alike("the 251st", State.behind(before.andThen(refused)), State.behind(before));
    }

    @Sentence(in = "Promise 6", says = "parent isn't a NODE of sort 0 to 3")
    static void promise6RefusedWhenParentIsntANode() {
        GoalOrder g = new GoalOrder();
        for (int parent : Edges.outside(0, 0)) {
            DUE.is("add(" + parent + ", 4, 0)", g.add(parent, Sorts.TRUE, 0), NONE);
        }
        DUE.is("the first node", g.add(0, Sorts.ROW, 0), 1);
        DUE.is("just behind the last", g.add(2, Sorts.TRUE, 0), NONE);
        DUE.is("the last node", g.add(1, Sorts.ROW, 0), 2);
        DUE.is("the next one is there by now", g.add(2, Sorts.TRUE, 0), 3);
        for (int parent : Edges.outside(0, 3)) {
            DUE.is("add(" + parent + ", 4, 0)", g.add(parent, Sorts.TRUE, 0), NONE);
        }
        DUE.is("no number is lost", g.add(0, Sorts.TRUE, 0), 4);
    }

    @Sentence(in = "Promise 6", says = "parent isn't a NODE of sort 0 to 3")
    static void promise6RefusedWhenParentIsAnAtom() {
        int[] rows = {0, 0, 0, 0, 0, 0, 2, 2, 1, 1, 1, 0, 0};
        for (int sort = 0; sort <= 12; sort++) {
            GoalOrder g = new GoalOrder();
            g.predicate(0);
            DUE.is("a parent of sort " + sort, Sorts.call(g, 0, sort, 0, new int[rows[sort]]), 1);
            DUE.is("a part of sort " + sort, g.add(1, Sorts.TRUE, 0), sort <= 3 ? 2 : NONE);
            DUE.is("how many parts", g.node(1, 1), sort <= 3 ? 1 : 0);
        }
    }

    @Sentence(in = "Promise 6", says = "is NOT with one PART or TEST with three")
    static void promise6RefusedForANotWithOnePart() {
        for (int sort = 0; sort <= 5; sort++) {
            GoalOrder g = new GoalOrder();
            int not = g.add(0, Sorts.NOT, 0);
            DUE.is("the first", g.add(not, sort, 0), 2);
            DUE.is("the second", g.add(not, sort, 0), NONE);
            DUE.is("one part", g.node(not, 1), 1);
            DUE.is("node 0 takes more", g.add(0, sort, 0), 3);
        }
    }

    @Sentence(in = "Promise 6", says = "is NOT with one PART or TEST with three")
    static void promise6RefusedForATestWithThree() {
        for (int sort = 0; sort <= 5; sort++) {
            GoalOrder g = new GoalOrder();
            int test = g.add(0, Sorts.TEST, 0);
            for (int k = 0; k < 3; k++) {
                DUE.is("part " + k, g.add(test, sort, 0), 2 + k);
            }
            DUE.is("a fourth", g.add(test, sort, 0), NONE);
            DUE.is("three parts", g.node(test, 1), 3);
            DUE.is("node 0 takes more", g.add(0, sort, 0), 5);
        }
    }

    @Sentence(in = "Promise 6", says = "or is 20 deep")
    static void promise6RefusedWhenParentIs20Deep() {
        for (int sort = Sorts.ROW; sort <= Sorts.TEST; sort++) {
            GoalOrder g = new GoalOrder();
            int deep = Trees.nest(g, Sorts.ROW, 19);
            int deepest = g.add(deep, sort, 0);
            DUE.is("a part of what is 19 deep", deepest, 20);
            for (int part = 0; part <= 4; part++) {
                DUE.is("sort " + part + " in what is 20 deep", g.add(deepest, part, 0), NONE);
            }
            DUE.is("no part there", g.node(deepest, 1), 0);
            DUE.is("beside it", g.add(deep, Sorts.TRUE, 0), 21);
            DUE.is("at the top", g.add(0, Sorts.TRUE, 0), 22);
        }
    }

    @Sentence(in = "Promise 6", says = "sort isn't 0 .. 12")
    static void promise6RefusedWhenSortIsnt0To12() {
        GoalOrder g = new GoalOrder();
        g.predicate(0);
        for (int sort : Edges.outside(0, 12)) {
            DUE.is("add(0, " + sort + ", 0)", g.add(0, sort, 0), NONE);
        }
        DUE.is("the least", g.add(0, 0, 0), 1);
        DUE.is("the largest", g.add(0, 12, 0), 2);
        DUE.is("just below", g.add(0, -1, 0), NONE);
        DUE.is("just above", g.add(0, 13, 0), NONE);
        DUE.is("two parts", g.node(0, 1), 2);
    }

    @Sentence(in = "Promise 6", says = "a CALL's predicate isn't there")
    static void promise6RefusedWhenACallsPredicateIsntThere() {
        GoalOrder g = new GoalOrder();
        DUE.is("without any", g.add(0, Sorts.CALL, 0), NONE);
        DUE.is("without any, NONE", g.add(0, Sorts.CALL, NONE), NONE);
        g.predicate(0);
        DUE.is("behind the last", g.add(0, Sorts.CALL, 1), NONE);
        DUE.is("the first", g.add(0, Sorts.CALL, 0), 1);
        for (int predicate = 1; predicate < 60; predicate++) {
            g.predicate(0);
        }
        for (int predicate : Edges.outside(0, 59)) {
            DUE.is("a call of " + predicate, g.add(0, Sorts.CALL, predicate), NONE);
        }
        DUE.is("the last", g.add(0, Sorts.CALL, 59), 2);
    }

    @Sentence(in = "Promise 6",
        says = "or the row has not as many as told (0 to 5: none; NUMBER one; FORM and SUM one at least).")
    static void promise6RefusedWhenTheRowHasNotAsManyAsTold() {
        int[] fewest = {0, 0, 0, 0, 0, 0, 2, 2, 1, 1, 1, 0};
        int[] most = {0, 0, 0, 0, 0, 0, 2, 2, 5, 1, 7, 6};
        for (int sort = 0; sort < 12; sort++) {
            GoalOrder g = new GoalOrder();
            int next = 1;
            for (int many = 0; many <= 7; many++) {
                boolean taken = many >= fewest[sort] && many <= most[sort];
                DUE.is("sort " + sort + " with " + many, Sorts.add(g, 0, sort, new int[many]), taken ? next : NONE);
                next += taken ? 1 : 0;
            }
            DUE.is("parts of sort " + sort, g.node(0, 1), next - 1);
        }
    }

    @Sentence(in = "Promise 6", says = "or the row has not as many as told")
    static void promise6RefusedWhenACallsRowHasNotAsMany() {
        for (int arguments = 0; arguments <= 6; arguments++) {
            for (int many = 0; many <= 7; many++) {
                GoalOrder g = new GoalOrder();
                g.predicate(arguments);
                int due = many == arguments ? 1 : NONE;
                DUE.is(many + " for " + arguments, Sorts.call(g, 0, Sorts.CALL, 0, new int[many]), due);
                DUE.is("the sort", g.node(1, 0), due == 1 ? Sorts.CALL : NONE);
            }
        }
    }

    @Sentence(in = "Promise 6", says = "(predicate is looked at for a CALL alone.)")
    static void promise6PredicateIsLookedAtForACallAlone() {
        int[] rows = {0, 0, 0, 0, 0, 0, 2, 2, 1, 1, 1, 0};
        for (int sort = 0; sort < 12; sort++) {
            int[] row = new int[rows[sort]];
            int putIn = sort;
            List<String> due = State.behind(g -> Sorts.call(g, 0, putIn, 0, row));
            for (int predicate : new int[] {NONE, 59, 60, Integer.MIN_VALUE, Integer.MAX_VALUE}) {
                DUE.alike("sort " + sort + " with predicate " + predicate,
                    State.behind(g -> Sorts.call(g, 0, putIn, predicate, row)), due);
            }
        }
    }

    // Promises 7 and 8

    @Sentence(in = "Promise 7", says = "A variable is GIVEN, or not any more.")
    static void promise7EachVariableByItself() {
        for (int x = 0; x < 60; x++) {
            GoalOrder g = new GoalOrder();
            DUE.is("given(" + x + ", true)", g.given(x, true), true);
            DUE.is("can be done", g.order(), 0);
            for (int other = 0; other < 60; other++) {
                DUE.is("ground(0, " + other + ")", g.ground(0, other), other == x);
                DUE.is("outer(0, " + other + ")", g.outer(0, other), false);
            }
            DUE.is("not wanted", g.wanted(x, false), false);
            DUE.is("given(" + x + ", false)", g.given(x, false), true);
            DUE.is("can be done", g.order(), 0);
            DUE.is("not any more", g.ground(0, x), false);
        }
    }

    @Sentence(in = "Promise 7", says = "False, refused, when it isn't 0 .. 59, or is so.")
    static void promise7RefusedWhenItIsnt0To59() {
        GoalOrder g = new GoalOrder();
        for (int x : Edges.outside(0, 59)) {
            DUE.is("given(" + x + ", true)", g.given(x, true), false);
            DUE.is("given(" + x + ", false)", g.given(x, false), false);
        }
        DUE.is("the least", g.given(0, true), true);
        DUE.is("the largest", g.given(59, true), true);
        for (int x : Edges.outside(0, 59)) {
            DUE.is("given(" + x + ", true)", g.given(x, true), false);
            DUE.is("given(" + x + ", false)", g.given(x, false), false);
        }
        DUE.is("the least is so still", g.given(0, false), true);
        DUE.is("the largest is so still", g.given(59, false), true);
    }

    @Sentence(in = "Promise 7", says = "False, refused, when it isn't 0 .. 59, or is so.")
    static void promise7RefusedWhenItIsSo() {
        GoalOrder g = new GoalOrder();
        for (int x = 0; x < 60; x++) {
            DUE.is("isn't at first, " + x, g.given(x, false), false);
            DUE.is("given " + x, g.given(x, true), true);
            DUE.is("is so, " + x, g.given(x, true), false);
            DUE.is("not any more, " + x, g.given(x, false), true);
            DUE.is("isn't so, " + x, g.given(x, false), false);
        }
    }

    @Sentence(in = "Promise 7", says = "False, refused, when it isn't 0 .. 59, or is so.")
    static void promise7WhatIsRefusedChangesNothing() {
        changesNothing("given(-1, true)", g -> g.given(-1, true));
        changesNothing("given(60, true)", g -> g.given(60, true));
        changesNothing("given(64, true)", g -> g.given(64, true));
        changesNothing("given(59, false)", g -> g.given(59, false));
        Consumer<GoalOrder> before = g -> {
            Trees.putInMixed(g);
            g.order();
        };
        DUE.alike("given(0, true)", State.behind(before.andThen(g -> g.given(0, true))), State.behind(before));
    }

    @Sentence(in = "Promise 8", says = "A variable is WANTED, or not any more.")
    static void promise8EachVariableByItself() {
        for (int x = 0; x < 60; x++) {
            GoalOrder g = new GoalOrder();
            DUE.is("wanted(" + x + ", true)", g.wanted(x, true), true);
            for (int other = 0; other < 60; other++) {
                DUE.is("outer(0, " + other + ")", g.outer(0, other), other == x);
            }
            DUE.is("isn't ground", g.order(), 2);
            DUE.is("that one", g.stuck(), x);
            DUE.is("not given", g.given(x, false), false);
            DUE.is("wanted(" + x + ", false)", g.wanted(x, false), true);
            DUE.is("not any more", g.outer(0, x), false);
            DUE.is("can be done", g.order(), 0);
        }
    }

    @Sentence(in = "Promise 8", says = "False, refused, when it isn't 0 .. 59, or is so.")
    static void promise8RefusedWhenItIsnt0To59() {
        GoalOrder g = new GoalOrder();
        for (int x : Edges.outside(0, 59)) {
            DUE.is("wanted(" + x + ", true)", g.wanted(x, true), false);
            DUE.is("wanted(" + x + ", false)", g.wanted(x, false), false);
        }
        DUE.is("nothing is", g.order(), 0);
        DUE.is("the least", g.wanted(0, true), true);
        DUE.is("the largest", g.wanted(59, true), true);
        for (int x : Edges.outside(0, 59)) {
            DUE.is("wanted(" + x + ", true)", g.wanted(x, true), false);
            DUE.is("wanted(" + x + ", false)", g.wanted(x, false), false);
        }
        DUE.is("the least is so still", g.wanted(0, false), true);
        DUE.is("the largest is so still", g.wanted(59, false), true);
    }

    @Sentence(in = "Promise 8", says = "False, refused, when it isn't 0 .. 59, or is so.")
    static void promise8RefusedWhenItIsSo() {
        GoalOrder g = new GoalOrder();
        for (int x = 0; x < 60; x++) {
            DUE.is("isn't at first, " + x, g.wanted(x, false), false);
            DUE.is("wanted " + x, g.wanted(x, true), true);
            DUE.is("is so, " + x, g.wanted(x, true), false);
            DUE.is("not any more, " + x, g.wanted(x, false), true);
            DUE.is("isn't so, " + x, g.wanted(x, false), false);
        }
    }

    @Sentence(in = "Promise 8", says = "False, refused, when it isn't 0 .. 59, or is so.")
    static void promise8WhatIsRefusedChangesNothing() {
        changesNothing("wanted(-1, true)", g -> g.wanted(-1, true));
        changesNothing("wanted(60, true)", g -> g.wanted(60, true));
        changesNothing("wanted(64, true)", g -> g.wanted(64, true));
        changesNothing("wanted(59, false)", g -> g.wanted(59, false));
        Consumer<GoalOrder> before = g -> {
            Trees.putInMixed(g);
            g.order();
        };
        DUE.alike("wanted(2, true)", State.behind(before.andThen(g -> g.wanted(2, true))), State.behind(before));
    }
}
