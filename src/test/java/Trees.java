import java.util.LinkedHashMap;
import java.util.Map;
import java.util.function.Consumer;

/** Runs of calls that several tests start from. */
final class Trees {
    private Trees() {
    }

    static GoalOrder given(int... variables) {
        GoalOrder g = new GoalOrder();
        for (int x : variables) {
            g.given(x, true);
        }
        return g;
    }

    /**
     * A tree that takes 19,962 tries and one for each of the TRUEs at its end: a row of 15 COMPAREs and 16 TRUEs
     * takes 1 + 16 * 16 + 15 = 272 in vain, ahead of each of 72 TRUEs and of the NUMBER that it waits for
     * (73 * 273), then 32 when it is done, and NODE 0 takes one.
     */
    static GoalOrder heavy(int more) {
        GoalOrder g = new GoalOrder();
        putInHeavy(g, more);
        return g;
    }

    private static void putInHeavy(GoalOrder g, int more) {
        int inner = g.add(0, Sorts.ROW, 0);
        for (int k = 0; k < 15; k++) {
            Sorts.add(g, inner, Sorts.COMPARE, 0);
        }
        for (int k = 0; k < 16; k++) {
            g.add(inner, Sorts.TRUE, 0);
        }
        for (int k = 0; k < 72; k++) {
            g.add(0, Sorts.TRUE, 0);
        }
        Sorts.add(g, 0, Sorts.NUMBER, 0);
        for (int k = 0; k < more; k++) {
            g.add(0, Sorts.TRUE, 0);
        }
    }

    /** Nodes of one sort, each the part of the one before; the deepest is as deep as said and has no part. */
    static int nest(GoalOrder g, int sort, int depth) {
        int deepest = 0;
        for (int k = 0; k < depth; k++) {
            deepest = g.add(deepest, sort, 0);
        }
        return deepest;
    }

    static void fillTree(GoalOrder g) {
        for (int node = 1; node < 250; node++) {
            g.add(0, Sorts.TRUE, 0);
        }
    }

    static void fillPredicates(GoalOrder g) {
        for (int predicate = 0; predicate < 60; predicate++) {
            g.predicate(predicate % 7);
        }
    }

    static void fillRow(GoalOrder g) {
        for (int k = 0; k < 7; k++) {
            g.put(50 + k);
        }
    }

    static void putRow(GoalOrder g) {
        g.put(8);
        g.put(59);
        g.put(8);
    }

    /** Two predicates, the first with two modes. */
    static void definePredicates(GoalOrder g) {
        g.predicate(2);
        g.mode(0, 0);
        g.mode(0, 2);
        g.predicate(6);
    }

    static void putInMixed(GoalOrder g) {
        definePredicates(g);
        putInMixedTree(g);
    }

    /** A tree with each sort, of which every part can be done. */
    static void putInMixedTree(GoalOrder g) {
        g.given(0, true);
        Sorts.add(g, 0, Sorts.COMPARE, 1, 2);
        int choice = g.add(0, Sorts.CHOICE, 0);
        int test = g.add(0, Sorts.TEST, 0);
        int not = g.add(0, Sorts.NOT, 0);
        Sorts.call(g, choice, Sorts.CALL, 0, 0, 1);
        Sorts.add(g, choice, Sorts.FORM, 0, 1, 1);
        Sorts.add(g, test, Sorts.DIFFER, 0, 0);
        Sorts.add(g, test, Sorts.SUM, 2, 0, 0);
        Sorts.add(g, test, Sorts.NUMBER, 2);
        Sorts.add(g, not, Sorts.SAME, 3, 0);
        g.wanted(2, true);
    }

    /** By name: runs that leave an object not ordered, ordered, or with each of the faults; with and without a row. */
    static Map<String, Consumer<GoalOrder>> states() {
        Map<String, Consumer<GoalOrder>> states = new LinkedHashMap<>();
        Consumer<GoalOrder> mixed = Trees::putInMixed;
        Consumer<GoalOrder> stuck = mixed.andThen(g -> Sorts.add(g, 0, Sorts.DIFFER, 7, 1));
        Consumer<GoalOrder> missing = mixed.andThen(g -> g.wanted(30, true));
        states.put("a new object", g -> { });
        states.put("an object with a row", Trees::putRow);
        states.put("a tree", mixed);
        states.put("a tree with a row", mixed.andThen(Trees::putRow));
        states.put("an ordered tree", mixed.andThen(GoalOrder::order));
        states.put("an ordered tree with a row", mixed.andThen(GoalOrder::order).andThen(Trees::putRow));
        states.put("fault 1", stuck.andThen(GoalOrder::order));
        states.put("fault 1 with a row", stuck.andThen(GoalOrder::order).andThen(Trees::putRow));
        states.put("fault 2 with a row", missing.andThen(GoalOrder::order).andThen(Trees::putRow));
        return states;
    }

    static void putInTooHeavy(GoalOrder g) {
        putInHeavy(g, 39);
        g.order();
    }
}
