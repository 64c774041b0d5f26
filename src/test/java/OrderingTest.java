/** Promises 9 and 10: what can be done when, the faults, and what is stuck. */
public final class OrderingTest {
    private static final int NONE = GoalOrder.NONE;
    private static final Due DUE = new Due();

    public static void main(String[] args) {
        promise9Atoms();
        promise9Same();
        promise9Form();
        promise9SumAndNumber();
        promise9Call();
        promise9Row();
        promise9RowGoesBackToTheLeft();
        promise9Choice();
        promise9ChoiceOfThree();
        promise9ChoiceKeepsInnerVariables();
        promise9ChoiceInRow();
        promise9Not();
        promise9Test();
        promise9TestAsksAndJoins();
        promise9Wanted();
        promise9Tries();
        promise9TriesOfNested();
        promise10Rows();
        promise10Branches();
        promise10Test();
        promise10LatestTime();
        promise10NoneElse();
        DUE.end();
    }

    /** Orders a tree of one atom: its way, or NONE when it can't be done. */
    private static int way(int sort, int[] row, int... ground) {
        GoalOrder g = Trees.given(ground);
        int atom = Sorts.add(g, 0, sort, row);
        int fault = g.order();
        DUE.is("9: stuck is told", g.stuck(), fault == 1 ? atom : NONE);
        return fault == 0 ? g.node(atom, -1) : NONE;
    }

    /** Whether an atom with that row and those ground ahead makes x ground. */
    private static boolean makes(int x, int sort, int[] row, int... ground) {
        GoalOrder g = Trees.given(ground);
        Sorts.add(g, 0, sort, row);
        g.wanted(x, true);
        return g.order() == 0;
    }

    private static int[] row(int... variables) {
        return variables;
    }

    private static void promise9Atoms() {
        DUE.is("9: true", way(Sorts.TRUE, row()), 0);
        DUE.is("9: fail", way(Sorts.FAIL, row()), 0);
        DUE.is("9: differ, both", way(Sorts.DIFFER, row(1, 2), 1, 2), 1);
        DUE.is("9: differ, first", way(Sorts.DIFFER, row(1, 2), 1), NONE);
        DUE.is("9: differ, second", way(Sorts.DIFFER, row(1, 2), 2), NONE);
        DUE.is("9: differ, x and x", way(Sorts.DIFFER, row(1, 1), 1), 1);
        DUE.is("9: compare none", way(Sorts.COMPARE, row()), 1);
        DUE.is("9: compare all", way(Sorts.COMPARE, row(0, 59, 2, 3, 4, 5), 0, 59, 2, 3, 4, 5), 1);
        DUE.is("9: compare, the last isn't", way(Sorts.COMPARE, row(0, 59, 2, 3, 4, 5), 0, 59, 2, 3, 4), NONE);
        DUE.is("9: true makes nothing", makes(1, Sorts.TRUE, row()), false);
    }

    private static void promise9Same() {
        DUE.is("9: same, both", way(Sorts.SAME, row(1, 2), 1, 2), 1);
        DUE.is("9: same, first", way(Sorts.SAME, row(1, 2), 1), 2);
        DUE.is("9: same, second", way(Sorts.SAME, row(1, 2), 2), 3);
        DUE.is("9: same, none", way(Sorts.SAME, row(1, 2)), NONE);
        DUE.is("9: same, x and x ground", way(Sorts.SAME, row(1, 1), 1), 1);
        DUE.is("9: same, x and x not ground", way(Sorts.SAME, row(1, 1)), NONE);
        DUE.is("9: same makes the second", makes(2, Sorts.SAME, row(1, 2), 1), true);
        DUE.is("9: same makes the first", makes(1, Sorts.SAME, row(1, 2), 2), true);
    }

    private static void promise9Form() {
        DUE.is("9: form, x", way(Sorts.FORM, row(1, 2, 3), 1), 1);
        DUE.is("9: form, x and all", way(Sorts.FORM, row(1, 2, 3), 1, 2, 3), 1);
        DUE.is("9: form, the others", way(Sorts.FORM, row(1, 2, 3), 2, 3), 2);
        DUE.is("9: form, one other", way(Sorts.FORM, row(1, 2, 3), 2), NONE);
        DUE.is("9: form, x alone", way(Sorts.FORM, row(1)), 2);
        DUE.is("9: form, x alone and ground", way(Sorts.FORM, row(1), 1), 1);
        DUE.is("9: form of itself", way(Sorts.FORM, row(1, 1)), NONE);
        DUE.is("9: form of itself, ground", way(Sorts.FORM, row(1, 1), 1), 1);
        DUE.is("9: form makes others", makes(5, Sorts.FORM, row(1, 2, 3, 4, 5), 1), true);
        DUE.is("9: form makes x", makes(1, Sorts.FORM, row(1, 2), 2), true);
    }

    private static void promise9SumAndNumber() {
        DUE.is("9: number, ground", way(Sorts.NUMBER, row(1), 1), 1);
        DUE.is("9: number, not ground", way(Sorts.NUMBER, row(1)), 2);
        DUE.is("9: number makes x", makes(1, Sorts.NUMBER, row(1)), true);
        DUE.is("9: sum, all", way(Sorts.SUM, row(1, 2, 3), 1, 2, 3), 1);
        DUE.is("9: sum, the others", way(Sorts.SUM, row(1, 2, 3), 2, 3), 2);
        DUE.is("9: sum, x and one other", way(Sorts.SUM, row(1, 2, 3), 1, 2), NONE);
        DUE.is("9: sum, x alone", way(Sorts.SUM, row(1)), 2);
        DUE.is("9: sum, x of x", way(Sorts.SUM, row(1, 1)), NONE);
        DUE.is("9: sum, x of x, ground", way(Sorts.SUM, row(1, 1), 1), 1);
        DUE.is("9: sum makes x", makes(1, Sorts.SUM, row(1, 2, 3), 2, 3), true);
        DUE.is("9: sum makes no other", makes(9, Sorts.SUM, row(1, 2, 3), 2, 3), false);
    }

    private static void promise9Call() {
        GoalOrder g = new GoalOrder();
        g.predicate(0);
        int empty = Sorts.call(g, 0, Sorts.CALL, 0);
        DUE.is("9: a call without a mode", g.order(), 1);
        DUE.is("9: is stuck", g.stuck(), empty);
        g.mode(0, 0);
        DUE.is("9: with one it isn't", g.order(), 0);
        DUE.is("9: its mode", g.node(empty, -1), 0);
        g.predicate(2);
        g.mode(1, 2);
        g.mode(1, 1);
        g.mode(1, 3);
        g.mode(1, 0);
        int call = Sorts.call(g, 0, Sorts.CALL, 1, 4, 5);
        DUE.is("9: all out", g.order(), 0);
        DUE.is("9: the third mode", g.node(call, -1), 2);
        g.given(5, true);
        DUE.is("9: the second in", g.order(), 0);
        DUE.is("9: the second mode", g.node(call, -1), 1);
        g.given(4, true);
        DUE.is("9: both in", g.order(), 0);
        DUE.is("9: the first mode comes first", g.node(call, -1), 0);
        g.given(4, false);
        g.given(5, false);
        g.wanted(4, true);
        g.wanted(5, true);
        DUE.is("9: all become ground", g.order(), 0);
        g.clear();
        g.predicate(2);
        g.mode(2, 2);
        Sorts.call(g, 0, Sorts.CALL, 2, 4, 4);
        DUE.is("9: in and out the same", g.order(), 1);
    }

    private static void promise9Row() {
        GoalOrder g = new GoalOrder();
        DUE.is("9: an empty row", g.order(), 0);
        int compare = Sorts.add(g, 0, Sorts.COMPARE, 3);
        int sum = Sorts.add(g, 0, Sorts.SUM, 3, 2, 1);
        int same = Sorts.add(g, 0, Sorts.SAME, 2, 1);
        DUE.is("9: a row that can't", g.order(), 1);
        DUE.is("9: its leftmost part", g.stuck(), compare);
        int number = Sorts.add(g, 0, Sorts.NUMBER, 1);
        DUE.is("9: a row that can", g.order(), 0);
        int[] due = {number, same, sum, compare};
        for (int k = 0; k < 4; k++) {
            DUE.is("9: done backwards", g.part(0, k), due[k]);
        }
        DUE.is("9: and no more", g.part(0, 4), NONE);
    }

    /** Behind each part that is done the leftmost that is left comes first again. */
    private static void promise9RowGoesBackToTheLeft() {
        GoalOrder g = new GoalOrder();
        int left = Sorts.add(g, 0, Sorts.COMPARE, 1);
        int middle = Sorts.add(g, 0, Sorts.NUMBER, 1);
        int right = Sorts.add(g, 0, Sorts.TRUE);
        DUE.is("9: ordered", g.order(), 0);
        DUE.is("9: the middle first", g.part(0, 0), middle);
        DUE.is("9: then the left", g.part(0, 1), left);
        DUE.is("9: then the right", g.part(0, 2), right);
    }

    private static void promise9Choice() {
        GoalOrder g = new GoalOrder();
        int choice = g.add(0, Sorts.CHOICE, 0);
        DUE.is("9: an empty choice", g.order(), 0);
        g.wanted(1, true);
        DUE.is("9: makes nothing", g.order(), 2);
        Sorts.add(g, choice, Sorts.NUMBER, 1);
        DUE.is("9: one part makes it", g.order(), 0);
        int other = Sorts.add(g, choice, Sorts.TRUE);
        DUE.is("9: the other doesn't", g.order(), 1);
        DUE.is("9: so the choice is stuck", g.stuck(), choice);
        g.given(1, true);
        DUE.is("9: ground ahead it may", g.order(), 0);
        DUE.is("9: the second part", g.part(choice, 1), other);
        g.given(1, false);
        g.wanted(1, false);
        DUE.is("9: and if it isn't outer", g.order(), 0);
    }

    /** Whichever of three parts doesn't make the outer variable, or alone makes it. */
    private static void promise9ChoiceOfThree() {
        for (int makers = 0; makers < 8; makers++) {
            GoalOrder g = new GoalOrder();
            int choice = g.add(0, Sorts.CHOICE, 0);
            for (int k = 0; k < 3; k++) {
                Sorts.add(g, choice, (makers >> k & 1) != 0 ? Sorts.NUMBER : Sorts.COMPARE, 1 + (~makers >> k & 1));
            }
            g.given(2, true);
            g.wanted(1, true);
            DUE.is("9: made by " + makers, g.order(), makers == 0 ? 2 : makers == 7 ? 0 : 1);
            DUE.is("10: told", g.stuck(), makers == 0 ? 1 : makers == 7 ? NONE : choice);
        }
    }

    /** What isn't outer of a choice stays inside it: this is seen where it is outer of one that lies in it. */
    private static void promise9ChoiceKeepsInnerVariables() {
        GoalOrder g = new GoalOrder();
        int choice = g.add(0, Sorts.CHOICE, 0);
        int left = g.add(choice, Sorts.ROW, 0);
        Sorts.add(g, left, Sorts.NUMBER, 1);
        Sorts.add(g, left, Sorts.NUMBER, 2);
        int right = g.add(choice, Sorts.ROW, 0);
        Sorts.add(g, right, Sorts.NUMBER, 1);
        Sorts.add(g, right, Sorts.NUMBER, 2);
        int behind = Sorts.add(g, 0, Sorts.COMPARE, 2);
        DUE.is("9: ordered", g.order(), 0);
        DUE.is("9: outer: ground behind", g.ground(behind, 2), true);
        DUE.is("9: not outer: not ground behind", g.ground(behind, 1), false);
        DUE.is("9: the parts have the set ahead", g.ground(right, 1), false);
    }

    /** A choice that can't be done yet is done when what it doesn't agree on is ground. */
    private static void promise9ChoiceInRow() {
        GoalOrder g = new GoalOrder();
        int choice = g.add(0, Sorts.CHOICE, 0);
        Sorts.add(g, choice, Sorts.NUMBER, 1);
        Sorts.add(g, choice, Sorts.FAIL);
        int number = Sorts.add(g, 0, Sorts.NUMBER, 1);
        DUE.is("9: ordered", g.order(), 0);
        DUE.is("9: the number first", g.part(0, 0), number);
        DUE.is("9: then the choice", g.part(0, 1), choice);
        DUE.is("9: its part is a check by then", g.node(2, -1), 1);
    }

    private static void promise9Not() {
        GoalOrder g = new GoalOrder();
        int not = g.add(0, Sorts.NOT, 0);
        DUE.is("9: not without a part", g.order(), 1);
        DUE.is("9: is stuck", g.stuck(), not);
        Sorts.add(g, not, Sorts.NUMBER, 1);
        DUE.is("9: an inner variable", g.order(), 0);
        g.wanted(1, true);
        DUE.is("9: an outer one", g.order(), 1);
        DUE.is("9: the not is stuck", g.stuck(), not);
        g.wanted(1, false);
        int number = Sorts.add(g, 0, Sorts.NUMBER, 1);
        DUE.is("9: outer, made elsewhere", g.order(), 0);
        DUE.is("9: there first", g.part(0, 0), number);
        DUE.is("9: the not then", g.part(0, 1), not);
        DUE.is("9: its part is a check", g.node(2, -1), 1);
    }

    private static void promise9Test() {
        GoalOrder g = new GoalOrder();
        int test = g.add(0, Sorts.TEST, 0);
        for (int k = 0; k < 3; k++) {
            DUE.is("9: a test of " + k, g.order(), 1);
            DUE.is("9: is stuck", g.stuck(), test);
            g.add(test, Sorts.TRUE, 0);
        }
        DUE.is("9: a test of three", g.order(), 0);
        g.clear();
        test = g.add(0, Sorts.TEST, 0);
        Sorts.add(g, test, Sorts.DIFFER, 1, 2);
        DUE.is("9: its one part can't", g.order(), 1);
        DUE.is("9: but is not tried", g.stuck(), test);
    }

    private static void promise9TestAsksAndJoins() {
        GoalOrder g = new GoalOrder();
        int test = g.add(0, Sorts.TEST, 0);
        int asked = Sorts.add(g, test, Sorts.NUMBER, 1);
        int ifSo = Sorts.add(g, test, Sorts.SAME, 1, 2);
        int ifNot = Sorts.add(g, test, Sorts.NUMBER, 2);
        DUE.is("9: the second has what the first makes", g.order(), 0);
        DUE.is("9: ground for the second", g.ground(ifSo, 1), true);
        DUE.is("9: not for the third", g.ground(ifNot, 1), false);
        DUE.is("9: as put in", g.part(test, 0), asked);
        g.wanted(2, true);
        DUE.is("9: both make it", g.order(), 0);
        g.wanted(1, true);
        DUE.is("9: what is asked makes an outer one", g.order(), 1);
        DUE.is("9: the test is stuck", g.stuck(), test);
        g.given(1, true);
        DUE.is("9: not if it is ground ahead", g.order(), 0);

        g.clear();
        test = g.add(0, Sorts.TEST, 0);
        Sorts.add(g, test, Sorts.NUMBER, 1);
        Sorts.add(g, test, Sorts.TRUE);
        int third = g.add(test, Sorts.ROW, 0);
        Sorts.add(g, third, Sorts.NUMBER, 1);
        DUE.is("9: the third has what is asked makes", g.order(), 1);
        DUE.is("9: the test is stuck", g.stuck(), test);

        g.clear();
        test = g.add(0, Sorts.TEST, 0);
        Sorts.add(g, test, Sorts.TRUE);
        Sorts.add(g, test, Sorts.NUMBER, 1);
        Sorts.add(g, test, Sorts.TRUE);
        DUE.is("9: an inner one", g.order(), 0);
        g.wanted(1, true);
        DUE.is("9: an outer one of the second alone", g.order(), 1);
        DUE.is("9: the test is stuck", g.stuck(), test);
    }

    private static void promise9Wanted() {
        GoalOrder g = Trees.given(1);
        g.wanted(1, true);
        g.wanted(40, true);
        g.wanted(59, true);
        DUE.is("9: two are missing", g.order(), 2);
        DUE.is("10: the least", g.stuck(), 40);
        int compare = Sorts.add(g, 0, Sorts.COMPARE, 3);
        DUE.is("9: being stuck goes first", g.order(), 1);
        DUE.is("10: the node", g.stuck(), compare);
        Sorts.add(g, 0, Sorts.NUMBER, 3);
        Sorts.add(g, 0, Sorts.NUMBER, 40);
        DUE.is("9: one is missing", g.order(), 2);
        DUE.is("10: that one", g.stuck(), 59);
        Sorts.add(g, 0, Sorts.NUMBER, 59);
        DUE.is("9: none is", g.order(), 0);
        DUE.is("10: none then", g.stuck(), NONE);
    }

    private static void promise9Tries() {
        DUE.is("9: 20,000 tries", Trees.heavy(38).order(), 0);
        DUE.is("9: 20,001 tries", Trees.heavy(39).order(), 3);
        GoalOrder g = Trees.heavy(39);
        g.wanted(59, true);
        DUE.is("9: 20,001 tries and a variable missing", g.order(), 3);
        DUE.is("10: nothing is told", g.stuck(), NONE);
        DUE.is("9: and nothing is ordered", g.part(0, 0), NONE);
        DUE.is("9: the same again", g.order(), 3);
        g.given(0, true);
        DUE.is("9: with less to try", g.order(), 2);
        DUE.is("10: the variable", g.stuck(), 59);
    }

    /** Each sort of node put in last takes so many tries: one TRUE more than there is room for is too much. */
    private static void promise9TriesOfNested() {
        for (int more = 0; more <= 1; more++) {
            GoalOrder g = Trees.heavy(36 + more);
            g.add(g.add(0, Sorts.NOT, 0), Sorts.TRUE, 0);
            DUE.is("9: not takes two", g.order(), more == 0 ? 0 : 3);

            g = Trees.heavy(37 + more);
            int not = g.add(0, Sorts.NOT, 0);
            DUE.is("9: not without a part takes one", g.order(), more == 0 ? 1 : 3);
            DUE.is("10: it is stuck", g.stuck(), more == 0 ? not : NONE);

            g = Trees.heavy(35 + more);
            int choice = g.add(0, Sorts.CHOICE, 0);
            g.add(choice, Sorts.TRUE, 0);
            g.add(choice, Sorts.TRUE, 0);
            DUE.is("9: a choice of two takes three", g.order(), more == 0 ? 0 : 3);

            g = Trees.heavy(36 + more);
            choice = g.add(0, Sorts.CHOICE, 0);
            int first = Sorts.add(g, choice, Sorts.COMPARE, 7);
            g.add(choice, Sorts.TRUE, 0);
            DUE.is("9: behind a part that can't none is tried", g.order(), more == 0 ? 1 : 3);
            DUE.is("10: that part is stuck", g.stuck(), more == 0 ? first : NONE);

            g = Trees.heavy(37 + more);
            int compare = Sorts.add(g, 0, Sorts.COMPARE, 7);
            DUE.is("9: one that can't takes one", g.order(), more == 0 ? 1 : 3);
            DUE.is("10: it is stuck", g.stuck(), more == 0 ? compare : NONE);
        }
        for (int more = 0; more <= 1; more++) {
            GoalOrder g = Trees.heavy(34 + more);
            addTest(g, Sorts.TRUE, Sorts.TRUE, Sorts.TRUE);
            DUE.is("9: a test takes four", g.order(), more == 0 ? 0 : 3);

            g = Trees.heavy(36 + more);
            addTest(g, Sorts.COMPARE, Sorts.TRUE, Sorts.TRUE);
            DUE.is("9: what is asked can't: two", g.order(), more == 0 ? 1 : 3);

            g = Trees.heavy(36 + more);
            addTest(g, Sorts.NUMBER, Sorts.TRUE, Sorts.NUMBER);
            DUE.is("9: what is asked may not: two", g.order(), more == 0 ? 1 : 3);

            g = Trees.heavy(35 + more);
            addTest(g, Sorts.TRUE, Sorts.COMPARE, Sorts.TRUE);
            DUE.is("9: the second can't: three", g.order(), more == 0 ? 1 : 3);

            g = Trees.heavy(37 + more);
            addTest(g, Sorts.TRUE, Sorts.TRUE);
            DUE.is("9: a test of two: one", g.order(), more == 0 ? 1 : 3);
        }
    }

    /** A test at the end of node 0, of atoms: those that take a variable have 7, which is not ground. */
    private static int addTest(GoalOrder g, int... sorts) {
        int test = g.add(0, Sorts.TEST, 0);
        for (int sort : sorts) {
            if (sort == Sorts.TRUE) {
                g.add(test, sort, 0);
            } else {
                Sorts.add(g, test, sort, 7);
            }
        }
        return test;
    }

    private static void promise10Rows() {
        GoalOrder g = new GoalOrder();
        Sorts.add(g, 0, Sorts.NUMBER, 1);
        int inner = g.add(0, Sorts.ROW, 0);
        int waiting = Sorts.add(g, inner, Sorts.COMPARE, 1);
        int stuck = Sorts.add(g, inner, Sorts.COMPARE, 2);
        Sorts.add(g, inner, Sorts.COMPARE, 3);
        Sorts.add(g, 0, Sorts.COMPARE, 4);
        DUE.is("10: a fault", g.order(), 1);
        DUE.is("10: the leftmost that is left of the row in the row", g.stuck(), stuck);
        g.given(2, true);
        DUE.is("10: a fault", g.order(), 1);
        DUE.is("10: then the next one", g.stuck(), stuck + 1);
        g.given(3, true);
        DUE.is("10: a fault", g.order(), 1);
        DUE.is("10: then the one behind", g.stuck(), stuck + 2);
        DUE.is("10: what can be done is not told", waiting != stuck, true);
    }

    private static void promise10Branches() {
        GoalOrder g = new GoalOrder();
        int choice = g.add(0, Sorts.CHOICE, 0);
        g.add(choice, Sorts.TRUE, 0);
        int not = g.add(choice, Sorts.NOT, 0);
        int row = g.add(not, Sorts.ROW, 0);
        Sorts.add(g, row, Sorts.NUMBER, 1);
        int stuck = Sorts.add(g, row, Sorts.DIFFER, 1, 2);
        Sorts.add(g, choice, Sorts.DIFFER, 3, 4);
        DUE.is("10: a fault", g.order(), 1);
        DUE.is("10: choice, not, row, atom", g.stuck(), stuck);
        g.given(2, true);
        DUE.is("10: a fault", g.order(), 1);
        DUE.is("10: the third part then", g.stuck(), stuck + 1);
        g.wanted(1, true);
        DUE.is("10: a fault", g.order(), 1);
        DUE.is("10: the not that makes an outer one", g.stuck(), not);
    }

    private static void promise10Test() {
        for (int which = 0; which < 3; which++) {
            GoalOrder g = new GoalOrder();
            int[] sorts = {Sorts.TRUE, Sorts.TRUE, Sorts.TRUE};
            sorts[which] = Sorts.COMPARE;
            int test = addTest(g, sorts);
            DUE.is("10: a fault", g.order(), 1);
            DUE.is("10: the part that can't", g.stuck(), test + 1 + which);
        }
        GoalOrder g = new GoalOrder();
        int test = addTest(g, Sorts.NUMBER, Sorts.TRUE, Sorts.COMPARE);
        DUE.is("10: a fault", g.order(), 1);
        DUE.is("10: the third is not tried", g.stuck(), test);
        g.clear();
        test = g.add(0, Sorts.TEST, 0);
        Sorts.add(g, test, Sorts.NUMBER, 1);
        Sorts.add(g, test, Sorts.COMPARE, 2);
        g.add(test, Sorts.TRUE, 0);
        g.wanted(1, true);
        DUE.is("10: a fault", g.order(), 1);
        DUE.is("10: behind an outer one that is made the second isn't tried", g.stuck(), test);
    }

    /** At first the choice is held up by a part of it, at last by what its parts don't agree on. */
    private static void promise10LatestTime() {
        GoalOrder g = new GoalOrder();
        int choice = g.add(0, Sorts.CHOICE, 0);
        int row = g.add(choice, Sorts.ROW, 0);
        int compare = Sorts.add(g, row, Sorts.COMPARE, 0);
        Sorts.add(g, row, Sorts.NUMBER, 1);
        g.add(choice, Sorts.TRUE, 0);
        g.wanted(1, true);
        DUE.is("10: a fault", g.order(), 1);
        DUE.is("10: the part of the part", g.stuck(), compare);
        Sorts.add(g, 0, Sorts.NUMBER, 0);
        DUE.is("10: a fault", g.order(), 1);
        DUE.is("10: the choice itself", g.stuck(), choice);
    }

    private static void promise10NoneElse() {
        GoalOrder g = new GoalOrder();
        DUE.is("10: before any", g.stuck(), NONE);
        int number = Sorts.add(g, 0, Sorts.NUMBER, 1);
        DUE.is("10: in order", g.order(), 0);
        DUE.is("10: none", g.stuck(), NONE);
        int compare = Sorts.add(g, 0, Sorts.COMPARE, 2);
        DUE.is("10: a fault", g.order(), 1);
        DUE.is("10: asked once", g.stuck(), compare);
        DUE.is("10: asked twice", g.stuck(), compare);
        g.given(99, true);
        g.add(number, Sorts.TRUE, 0);
        g.put(1);
        g.add(0, Sorts.TRUE, 0);
        g.predicate(1);
        DUE.is("10: what is refused changes nothing", g.stuck(), compare);
        g.add(0, Sorts.TRUE, 0);
        DUE.is("10: the tree is another now", g.stuck(), NONE);
        DUE.is("10: a fault", g.order(), 1);
        g.given(3, true);
        DUE.is("10: what is given has changed", g.stuck(), NONE);
        DUE.is("10: a fault", g.order(), 1);
        g.wanted(3, true);
        DUE.is("10: what is wanted has changed", g.stuck(), NONE);
        DUE.is("10: a fault", g.order(), 1);
        g.mode(0, 0);
        DUE.is("10: a new mode", g.stuck(), NONE);
        DUE.is("10: a fault", g.order(), 1);
        g.clear();
        DUE.is("10: another tree", g.stuck(), NONE);
    }
}
