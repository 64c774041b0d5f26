/** Promises 1 to 8: the object, its predicates and modes, and the putting in of a tree. */
public final class BuildingTest {
    private static final int NONE = GoalOrder.NONE;
    private static final int LEAST = Integer.MIN_VALUE;
    private static final int MOST = Integer.MAX_VALUE;
    private static final Due DUE = new Due();

    public static void main(String[] args) {
        promise1NewObject();
        promise2Predicate();
        promise3Mode();
        promise3ModeBits();
        promise4Clear();
        promise4ClearForgetsNodes();
        promise5Put();
        promise6Numbers();
        promise6Parents();
        promise6Depth();
        promise6RowLengths();
        promise6Call();
        promise6RowIsEmptied();
        promise7Given();
        promise8Wanted();
        DUE.end();
    }

    private static void promise1NewObject() {
        GoalOrder g = new GoalOrder();
        DUE.is("1: NONE", NONE, -1);
        DUE.is("1: no predicate yet", g.mode(0, 0), NONE);
        DUE.is("1: node 0 is a row", g.node(0, 0), Sorts.ROW);
        DUE.is("1: without parts", g.node(0, 1), 0);
        DUE.is("1: without variables", g.node(0, 2), 0);
        DUE.is("1: no node 1", g.node(1, 0), NONE);
        DUE.is("1: nothing stuck", g.stuck(), NONE);
        for (int x = 0; x < 60; x++) {
            DUE.is("1: not given " + x, g.given(x, false), false);
            DUE.is("1: not wanted " + x, g.wanted(x, false), false);
        }
        DUE.is("1: the row is empty", g.add(0, Sorts.TRUE, 0), 1);
        DUE.is("1: an own tree for each object", new GoalOrder().node(1, 0), NONE);
    }

    private static void promise2Predicate() {
        GoalOrder g = new GoalOrder();
        int[] refused = {-1, 7, LEAST, MOST};
        for (int many : refused) {
            DUE.is("2: predicate(" + many + ")", g.predicate(many), NONE);
        }
        for (int i = 0; i < 60; i++) {
            DUE.is("2: the next number", g.predicate(i % 7), i);
        }
        DUE.is("2: no 61st", g.predicate(0), NONE);
        g.clear();
        DUE.is("2: they outlive a clear", g.predicate(0), NONE);
        for (int i = 0; i < 60; i++) {
            DUE.is("2: as many arguments as said", Sorts.call(g, 0, Sorts.CALL, i, new int[i % 7]), i + 1);
        }
    }

    private static void promise3Mode() {
        GoalOrder g = new GoalOrder();
        g.predicate(2);
        g.predicate(0);
        int[] refused = {-1, 2, LEAST, MOST};
        for (int p : refused) {
            DUE.is("3: mode of " + p, g.mode(p, 0), NONE);
        }
        for (int i = 0; i < 4; i++) {
            DUE.is("3: the next number", g.mode(1, -1), i);
        }
        DUE.is("3: no fifth", g.mode(1, 0), NONE);
        DUE.is("3: each predicate has its own", g.mode(0, MOST), 0);
    }

    /** For each argument: a mode in which that one alone is out, with bits beyond the arguments set. */
    private static void promise3ModeBits() {
        for (int out = 0; out < 6; out++) {
            GoalOrder g = new GoalOrder();
            g.predicate(6);
            g.mode(0, 1 << out | ~63);
            int call = Sorts.call(g, 0, Sorts.CALL, 0, 10, 11, 12, 13, 14, 15);
            int behind = Sorts.add(g, 0, Sorts.COMPARE, 10 + out);
            int missing = (out + 1) % 6;
            for (int k = 0; k < 6; k++) {
                if (k != out && k != missing) {
                    g.given(10 + k, true);
                }
            }
            DUE.is("3: an in one is missing", g.order(), 1);
            g.given(10 + missing, true);
            DUE.is("3: out " + out, g.order(), 0);
            DUE.is("3: done ahead", g.part(0, 0), call);
            DUE.is("3: made ground", g.ground(behind, 10 + out), true);
        }
    }

    private static void promise4Clear() {
        GoalOrder g = new GoalOrder();
        g.predicate(1);
        g.mode(0, 0);
        g.given(3, true);
        g.wanted(4, true);
        Sorts.add(g, 0, Sorts.SAME, 3, 4);
        DUE.is("4: ordered", g.order(), 0);
        g.put(5);
        g.clear();
        DUE.is("4: node 1 is gone", g.node(1, 0), NONE);
        DUE.is("4: no parts", g.node(0, 1), 0);
        DUE.is("4: none of its variables", g.outer(0, 3), false);
        DUE.is("4: no ordering", g.ground(0, 3), false);
        DUE.is("4: nothing is wanted", g.outer(0, 4), false);
        DUE.is("4: not given", g.given(3, false), false);
        DUE.is("4: not wanted", g.wanted(4, false), false);
        DUE.is("4: the row is empty", g.add(0, Sorts.TRUE, 0), 1);
        DUE.is("4: numbers from 1 on", g.add(0, Sorts.ROW, 0), 2);
        DUE.is("4: the predicate stays", Sorts.call(g, 2, Sorts.CALL, 0, 7), 3);
        DUE.is("4: its mode stays", g.mode(0, 1), 1);
    }

    private static void promise4ClearForgetsNodes() {
        GoalOrder g = new GoalOrder();
        int not = g.add(0, Sorts.NOT, 0);
        Sorts.add(g, not, Sorts.FORM, 1, 2, 3);
        Sorts.add(g, 0, Sorts.DIFFER, 8, 9);
        DUE.is("4: stuck", g.order(), 1);
        g.clear();
        DUE.is("4: nothing stuck", g.stuck(), NONE);
        DUE.is("4: a not again", g.add(0, Sorts.NOT, 0), 1);
        DUE.is("4: without a part", g.node(1, 1), 0);
        DUE.is("4: so it can't be done", g.order(), 1);
        DUE.is("4: and no old part of it is tried", g.stuck(), 1);
        DUE.is("4: its old variables are not there", g.outer(1, 8), false);
        DUE.is("4: it takes a part", Sorts.add(g, 1, Sorts.NUMBER, 5), 2);
        DUE.is("4: of one variable", g.node(2, 2), 1);
        DUE.is("4: the others are gone", g.node(2, 4), NONE);
        DUE.is("4: in order", g.order(), 0);
        DUE.is("4: one part", g.part(0, 1), NONE);
    }

    private static void promise5Put() {
        GoalOrder g = new GoalOrder();
        int[] refused = {-1, 60, LEAST, MOST};
        for (int x : refused) {
            DUE.is("5: put(" + x + ")", g.put(x), false);
        }
        int[] row = {0, 59, 59, 7, 1, 2, 3};
        for (int x : row) {
            DUE.is("5: put(" + x + ")", g.put(x), true);
        }
        DUE.is("5: no eighth", g.put(4), false);
        DUE.is("5: a sum of seven", g.add(0, Sorts.SUM, 0), 1);
        DUE.is("5: seven variables", g.node(1, 2), 7);
        for (int k = 0; k < 7; k++) {
            DUE.is("5: in their order", g.node(1, 3 + k), row[k]);
        }
        DUE.is("5: then there is room again", g.put(4), true);
    }

    private static void promise6Numbers() {
        GoalOrder g = new GoalOrder();
        for (int i = 1; i < 250; i++) {
            DUE.is("6: the next number", g.add(0, Sorts.TRUE, MOST), i);
        }
        DUE.is("6: no 251st", g.add(0, Sorts.TRUE, 0), NONE);
        DUE.is("6: 249 parts", g.node(0, 1), 249);
        DUE.is("6: they are in order", g.order(), 0);
        DUE.is("6: the last one", g.part(0, 248), 249);
        DUE.is("6: still no 251st", g.add(0, Sorts.TRUE, 0), NONE);
        DUE.is("6: what is refused leaves the ordering", g.part(0, 248), 249);
    }

    private static void promise6Parents() {
        GoalOrder g = new GoalOrder();
        int[] noNodes = {-1, 1, 250, LEAST, MOST};
        for (int parent : noNodes) {
            DUE.is("6: parent " + parent, g.add(parent, Sorts.TRUE, 0), NONE);
        }
        int[] noSorts = {-1, 13, LEAST, MOST};
        for (int sort : noSorts) {
            DUE.is("6: sort " + sort, g.add(0, sort, 0), NONE);
        }
        int not = g.add(0, Sorts.NOT, 0);
        DUE.is("6: a not's part", g.add(not, Sorts.TRUE, 0), 2);
        DUE.is("6: a not's second part", g.add(not, Sorts.TRUE, 0), NONE);
        int test = g.add(0, Sorts.TEST, 0);
        for (int k = 0; k < 3; k++) {
            DUE.is("6: a test's part", g.add(test, Sorts.FAIL, 0), 4 + k);
        }
        DUE.is("6: a test's fourth part", g.add(test, Sorts.TRUE, 0), NONE);
        int choice = g.add(0, Sorts.CHOICE, 0);
        for (int k = 0; k < 10; k++) {
            DUE.is("6: a choice's part", g.add(choice, Sorts.TRUE, 0), 8 + k);
        }
        DUE.is("6: true takes none", g.add(2, Sorts.TRUE, 0), NONE);
        DUE.is("6: fail takes none", g.add(4, Sorts.TRUE, 0), NONE);
        int number = Sorts.add(g, 0, Sorts.NUMBER, 1);
        DUE.is("6: a number takes none", g.add(number, Sorts.TRUE, 0), NONE);
        DUE.is("6: the parts of node 0", g.node(0, 1), 4);
    }

    private static void promise6Depth() {
        GoalOrder g = new GoalOrder();
        int deep = 0;
        for (int depth = 1; depth <= 20; depth++) {
            deep = g.add(deep, depth % 4 == 0 ? Sorts.NOT : Sorts.ROW, 0);
            DUE.is("6: at depth " + depth, deep, depth);
        }
        DUE.is("6: nothing 21 deep", g.add(deep, Sorts.TRUE, 0), NONE);
        DUE.is("6: but 20 deep", g.add(19, Sorts.TRUE, 0), 21);
        DUE.is("6: the deepest not has no part", g.order(), 1);
        DUE.is("6: it is stuck", g.stuck(), 20);
    }

    private static void promise6RowLengths() {
        int[] fewest = {0, 0, 0, 0, 0, 0, 2, 2, 1, 1, 1, 0};
        int[] most = {0, 0, 0, 0, 0, 0, 2, 2, 5, 1, 7, 6};
        for (int sort = 0; sort < 12; sort++) {
            for (int many = 0; many <= 7; many++) {
                GoalOrder g = new GoalOrder();
                int due = many >= fewest[sort] && many <= most[sort] ? 1 : NONE;
                DUE.is("6: sort " + sort + " with " + many, Sorts.add(g, 0, sort, new int[many]), due);
                DUE.is("6: its sort", g.node(1, 0), due == 1 ? sort : NONE);
                DUE.is("6: how many", g.node(1, 2), due == 1 ? many : NONE);
            }
        }
    }

    private static void promise6Call() {
        GoalOrder g = new GoalOrder();
        DUE.is("6: no predicate", g.add(0, Sorts.CALL, 0), NONE);
        for (int many = 0; many <= 6; many++) {
            g.predicate(many);
        }
        int[] noPredicates = {-1, 7, LEAST, MOST};
        for (int predicate : noPredicates) {
            DUE.is("6: predicate " + predicate, g.add(0, Sorts.CALL, predicate), NONE);
        }
        int next = 1;
        for (int arguments = 0; arguments <= 6; arguments++) {
            for (int many = 0; many <= 7; many++) {
                int due = many == arguments ? next++ : NONE;
                DUE.is("6: a call", Sorts.call(g, 0, Sorts.CALL, arguments, new int[many]), due);
            }
        }
    }

    private static void promise6RowIsEmptied() {
        GoalOrder g = new GoalOrder();
        g.put(1);
        DUE.is("6: refused", g.add(0, Sorts.TRUE, 0), NONE);
        DUE.is("6: and emptied", g.add(0, Sorts.TRUE, 0), 1);
        g.put(1);
        DUE.is("6: refused for its parent", g.add(99, Sorts.NUMBER, 0), NONE);
        DUE.is("6: and emptied", g.add(0, Sorts.COMPARE, 0), 2);
        DUE.is("6: no variable", g.node(2, 2), 0);
        g.put(1);
        DUE.is("6: taken", g.add(0, Sorts.NUMBER, 0), 3);
        DUE.is("6: and emptied", g.add(0, Sorts.NUMBER, 0), NONE);
        DUE.is("6: what is refused is no variable of the tree", Sorts.add(g, 0, Sorts.DIFFER, 5), NONE);
        DUE.is("6: so it isn't outer", g.outer(1, 5), false);
    }

    private static void promise7Given() {
        GoalOrder g = new GoalOrder();
        int[] refused = {-1, 60, LEAST, MOST, 64};
        for (int x : refused) {
            DUE.is("7: given(" + x + ")", g.given(x, true), false);
            DUE.is("7: given(" + x + ")", g.given(x, false), false);
        }
        for (int x = 0; x < 60; x++) {
            DUE.is("7: given now", g.given(x, true), true);
            DUE.is("7: given already", g.given(x, true), false);
        }
        DUE.is("7: ordered", g.order(), 0);
        for (int x = 0; x < 60; x++) {
            DUE.is("7: ground at first", g.ground(0, x), true);
        }
        DUE.is("7: not any more", g.given(32, false), true);
        DUE.is("7: isn't any more", g.given(32, false), false);
        DUE.is("7: ordered again", g.order(), 0);
        DUE.is("7: that one isn't", g.ground(0, 32), false);
        DUE.is("7: the next one is", g.ground(0, 33), true);
        DUE.is("7: the first one is", g.ground(0, 0), true);
    }

    private static void promise8Wanted() {
        GoalOrder g = new GoalOrder();
        int[] refused = {-1, 60, LEAST, MOST, 64};
        for (int x : refused) {
            DUE.is("8: wanted(" + x + ")", g.wanted(x, true), false);
            DUE.is("8: wanted(" + x + ")", g.wanted(x, false), false);
        }
        for (int x = 0; x < 60; x++) {
            DUE.is("8: wanted now", g.wanted(x, true), true);
            DUE.is("8: wanted already", g.wanted(x, true), false);
            DUE.is("8: so it is outer", g.outer(0, x), true);
        }
        DUE.is("8: a fault", g.order(), 2);
        DUE.is("8: the least", g.stuck(), 0);
        for (int x = 0; x < 59; x++) {
            DUE.is("8: not any more", g.wanted(x, false), true);
            DUE.is("8: isn't any more", g.wanted(x, false), false);
        }
        DUE.is("8: a fault", g.order(), 2);
        DUE.is("8: the last", g.stuck(), 59);
    }
}
