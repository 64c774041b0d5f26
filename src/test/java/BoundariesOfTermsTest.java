/** What the document is about, and Terms: what there is, how many of it, and which sorts take which row. */
public final class BoundariesOfTermsTest {
    private static final int NONE = GoalOrder.NONE;
    private static final Due DUE = new Due();

    public static void main(String[] args) {
        Sentences.run(BoundariesOfTermsTest.class, DUE);
    }

    @Sentence(in = "What it is", says = "An object is used for at most 512 calls after it has been made")
    static void the512thCallIsAnswered() {
        GoalOrder g = new GoalOrder();
        int calls = 0;
        for (int x = 0; x < 60; x++) {
            g.given(x, true);
            g.wanted(x, true);
            g.predicate(6);
            calls += 3;
        }
        for (int node = 1; node < 250; node++) {
            g.add(0, Sorts.TRUE, 0);
            calls++;
        }
        while (calls < 511) {
            DUE.is("order() as call " + calls, g.order(), 0);
            calls++;
        }
        DUE.is("the 512th call", g.part(0, 248), 249);
    }

    @Sentence(in = "What it is", says = "An object is used for at most 512 calls after it has been made")
    static void asManyDearCallsAsThereCanBe() {
        GoalOrder g = Trees.heavy(38);
        for (int call = 160; call <= 512; call++) {
            DUE.is("order() as call " + call, g.order(), 0);
        }
    }

    @Sentence(in = "Terms", says = "PREDICATES are numbered from 0 on, at most 60")
    static void predicatesAreNumberedFrom0OnAtMost60() {
        GoalOrder g = new GoalOrder();
        for (int predicate = 0; predicate < 60; predicate++) {
            DUE.is("none yet", g.add(0, Sorts.CALL, predicate), NONE);
            DUE.is("its number", g.predicate(0), predicate);
            DUE.is("there now", g.add(0, Sorts.CALL, predicate), 1 + predicate);
        }
        DUE.is("one more", g.predicate(0), NONE);
        DUE.is("isn't there", g.add(0, Sorts.CALL, 60), NONE);
    }

    @Sentence(in = "Terms", says = "each has 0 .. 6 ARGUMENTS")
    static void eachPredicateHas0To6Arguments() {
        for (int many = -2; many <= 9; many++) {
            GoalOrder g = new GoalOrder();
            DUE.is("predicate(" + many + ")", g.predicate(many), many >= 0 && many <= 6 ? 0 : NONE);
            for (int row = 0; row <= 7; row++) {
                int made = Sorts.call(g, 0, Sorts.CALL, 0, new int[row]);
                DUE.is("a call of " + many + " with " + row, made, row == many && many <= 6 ? 1 : NONE);
            }
        }
    }

    @Sentence(in = "Terms", says = "and MODES, numbered from 0 on, at most 4")
    static void modesAreNumberedFrom0OnAtMost4() {
        GoalOrder g = new GoalOrder();
        g.predicate(3);
        g.predicate(0);
        for (int mode = 0; mode < 6; mode++) {
            DUE.is("of the first", g.mode(0, 7), mode < 4 ? mode : NONE);
            DUE.is("of the second", g.mode(1, 0), mode < 4 ? mode : NONE);
        }
    }

    @Sentence(in = "Terms", says = "in a MODE each ARGUMENT is IN or OUT.")
    static void allInAndAllOut() {
        for (int arguments = 0; arguments <= 6; arguments++) {
            int[] row = new int[arguments];
            for (int k = 0; k < arguments; k++) {
                row[k] = 59 - k;
            }
            GoalOrder g = new GoalOrder();
            g.predicate(arguments);
            g.mode(0, 0);
            Sorts.call(g, 0, Sorts.CALL, 0, row);
            DUE.is("all in, none ground, of " + arguments, g.order(), arguments == 0 ? 0 : 1);
            g.mode(0, (1 << arguments) - 1);
            DUE.is("all out, none ground, of " + arguments, g.order(), 0);
            DUE.is("the mode", g.node(1, -1), arguments == 0 ? 0 : 1);
            for (int x : row) {
                g.given(x, true);
            }
            DUE.is("all ground, of " + arguments, g.order(), 0);
            DUE.is("the first mode", g.node(1, -1), 0);
        }
    }

    @Sentence(in = "Terms", says = "VARIABLES are 0 .. 59.")
    static void variablesAre0To59() {
        for (int x = 0; x < 60; x++) {
            DUE.is("whole life of " + x, isVariable(x), true);
        }
        for (int x : Edges.outside(0, 59)) {
            DUE.is("none such: " + x, isVariable(x), false);
        }
    }

    /** Asks each call that takes a variable; they must agree. */
    private static boolean isVariable(int x) {
        GoalOrder g = new GoalOrder();
        boolean put = g.put(x);
        g.add(0, Sorts.NUMBER, 0);
        boolean given = g.given(x, true);
        boolean wanted = g.wanted(x, true);
        boolean outer = g.outer(0, x);
        DUE.is("order()", g.order(), 0);
        boolean ground = g.ground(0, x);
        DUE.is("given as put, " + x, given, put);
        DUE.is("wanted as put, " + x, wanted, put);
        DUE.is("outer as put, " + x, outer, put);
        DUE.is("ground as put, " + x, ground, put);
        DUE.is("the variable of node 1, " + x, g.node(1, 3), put ? x : NONE);
        return put;
    }

    @Sentence(in = "Terms", says = "A tree of NODES is at work, numbered from 0 on, at most 250")
    static void nodesAreNumberedFrom0OnAtMost250() {
        GoalOrder g = new GoalOrder();
        for (int node = 1; node < 250; node++) {
            DUE.is("not there yet", g.node(node, 0), NONE);
            DUE.is("its number", g.add(0, Sorts.FAIL, 0), node);
        }
        DUE.is("one more", g.add(0, Sorts.FAIL, 0), NONE);
        DUE.is("the first", g.node(0, 0), Sorts.ROW);
        DUE.is("the last", g.node(249, 0), Sorts.FAIL);
        DUE.is("behind the last", g.node(250, 0), NONE);
        DUE.is("ahead of the first", g.node(-1, 0), NONE);
    }

    @Sentence(in = "Terms", says = "NODE 0 is a ROW and is there at first; each other one is the last PART of another one")
    static void node0IsARowAndIsThereAtFirst() {
        GoalOrder g = new GoalOrder();
        DUE.is("a row", g.node(0, 0), Sorts.ROW);
        DUE.is("no part of anything: it takes parts at once", g.add(0, Sorts.CHOICE, 0), 1);
        DUE.is("the last part", g.add(0, Sorts.TRUE, 0), 2);
        DUE.is("of another one", g.add(1, Sorts.TRUE, 0), 3);
        DUE.is("two", g.node(0, 1), 2);
        DUE.is("one", g.node(1, 1), 1);
        DUE.is("a node is no part of itself", g.add(4, Sorts.ROW, 0), NONE);
    }

    @Sentence(in = "Terms", says = "0 ROW and 1 CHOICE (any number of PARTS)")
    static void rowAndChoiceTakeAnyNumberOfParts() {
        for (int sort = Sorts.ROW; sort <= Sorts.CHOICE; sort++) {
            GoalOrder g = new GoalOrder();
            int whole = g.add(0, sort, 0);
            DUE.is("without parts, sort " + sort, g.order(), 0);
            for (int part = 0; part < 248; part++) {
                DUE.is("part " + part, g.add(whole, Sorts.TRUE, 0), 2 + part);
            }
            DUE.is("with 248, sort " + sort, g.order(), 0);
            DUE.is("how many", g.node(whole, 1), 248);
            DUE.is("the first", g.part(whole, 0), 2);
            DUE.is("the last", g.part(whole, 247), 249);
            DUE.is("behind the last", g.part(whole, 248), NONE);
            DUE.is("ahead of the first", g.part(whole, -1), NONE);
        }
    }

    @Sentence(in = "Terms", says = "2 NOT (one)")
    static void notTakesOnePart() {
        takesParts(Sorts.NOT, 1);
    }

    @Sentence(in = "Terms", says = "3 TEST (three: the first is asked, the second is done if it holds, the third if not).")
    static void testTakesThreeParts() {
        takesParts(Sorts.TEST, 3);
    }

    private static void takesParts(int sort, int most) {
        GoalOrder g = new GoalOrder();
        int whole = g.add(0, sort, 0);
        for (int k = 0; k < most; k++) {
            DUE.is("has " + k, g.node(whole, 1), k);
            DUE.is("can't be done with " + k, g.order(), 1);
            DUE.is("takes part " + k, g.add(whole, Sorts.TRUE, 0), 2 + k);
        }
        DUE.is("can be done", g.order(), 0);
        DUE.is("takes no more", g.add(whole, Sorts.TRUE, 0), NONE);
        DUE.is("has as many as told", g.node(whole, 1), most);
        DUE.is("the last", g.part(whole, most - 1), 1 + most);
        DUE.is("behind the last", g.part(whole, most), NONE);
    }

    /** Puts in an atom with each length of a row: taken from fewest to most, and the row is told as it was put. */
    private static void takesRow(int sort, int fewest, int most) {
        for (int many = 0; many <= 7; many++) {
            GoalOrder g = new GoalOrder();
            int[] row = new int[many];
            for (int k = 0; k < many; k++) {
                row[k] = 59 - 9 * k;
            }
            boolean taken = many >= fewest && many <= most;
            DUE.is("sort " + sort + " with " + many, Sorts.add(g, 0, sort, row), taken ? 1 : NONE);
            DUE.is("parts of node 0", g.node(0, 1), taken ? 1 : 0);
            DUE.is("its sort", g.node(1, 0), taken ? sort : NONE);
            DUE.is("how many", g.node(1, 2), taken ? many : NONE);
            for (int k = 0; k <= 7; k++) {
                DUE.is("variable " + k, g.node(1, 3 + k), taken && k < many ? row[k] : NONE);
            }
            DUE.is("what comes next", g.add(0, Sorts.TRUE, 0), taken ? 2 : 1);
        }
    }

    @Sentence(in = "Terms", says = "4 TRUE and 5 FAIL.")
    static void trueAndFailTakeNoVariables() {
        takesRow(Sorts.TRUE, 0, 0);
        takesRow(Sorts.FAIL, 0, 0);
    }

    @Sentence(in = "Terms", says = "6 SAME and 7 DIFFER: two variables.")
    static void sameAndDifferTakeTwoVariables() {
        takesRow(Sorts.SAME, 2, 2);
        takesRow(Sorts.DIFFER, 2, 2);
    }

    @Sentence(in = "Terms", says = "8 FORM: x and up to 4 others.")
    static void formTakesXAndUpTo4Others() {
        takesRow(Sorts.FORM, 1, 5);
    }

    @Sentence(in = "Terms", says = "9 NUMBER: x.")
    static void numberTakesX() {
        takesRow(Sorts.NUMBER, 1, 1);
    }

    @Sentence(in = "Terms", says = "10 SUM: x and up to 6 others.")
    static void sumTakesXAndUpTo6Others() {
        takesRow(Sorts.SUM, 1, 7);
    }

    @Sentence(in = "Terms", says = "11 COMPARE: up to 6 variables.")
    static void compareTakesUpTo6Variables() {
        takesRow(Sorts.COMPARE, 0, 6);
    }

    @Sentence(in = "Terms", says = "12 CALL: a PREDICATE and a variable for each ARGUMENT.")
    static void callTakesAVariableForEachArgument() {
        for (int arguments = 0; arguments <= 6; arguments++) {
            for (int many = 0; many <= 7; many++) {
                GoalOrder g = new GoalOrder();
                g.predicate(arguments);
                int[] row = new int[many];
                for (int k = 0; k < many; k++) {
                    row[k] = 59 - 9 * k;
                }
                boolean taken = many == arguments;
                DUE.is(many + " for " + arguments, Sorts.call(g, 0, Sorts.CALL, 0, row), taken ? 1 : NONE);
                for (int k = 0; k <= 7; k++) {
                    DUE.is("variable " + k, g.node(1, 3 + k), taken && k < many ? row[k] : NONE);
                }
            }
        }
    }

    @Sentence(in = "Terms", says = "0 ROW and 1 CHOICE (any number of PARTS), 2 NOT (one), 3 TEST (three")
    static void whatHasPartsTakesNoVariables() {
        for (int sort = Sorts.ROW; sort <= Sorts.TEST; sort++) {
            takesRow(sort, 0, 0);
        }
    }

    @Sentence(in = "Terms", says = "A NODE that is none of 0 to 3 is an ATOM; its VARIABLES are told as a row, x first")
    static void whatIsNoneOf0To3IsAnAtom() {
        int[] rows = {0, 0, 0, 0, 0, 0, 2, 2, 5, 1, 7, 6, 6};
        for (int sort = 0; sort <= 12; sort++) {
            GoalOrder g = new GoalOrder();
            g.predicate(6);
            g.mode(0, 0);
            for (int k = 0; k < 7; k++) {
                g.given(10 + k, true);
            }
            int[] row = new int[rows[sort]];
            for (int k = 0; k < row.length; k++) {
                row[k] = 10 + k;
            }
            Sorts.call(g, 0, sort, 0, row);
            if (sort == Sorts.NOT || sort == Sorts.TEST) {
                for (int k = 0; k < 3; k++) {
                    g.add(1, Sorts.TRUE, 0);
                }
            }
            DUE.is("ordered, sort " + sort, g.order(), 0);
            boolean hasWay = g.node(1, -1) != NONE;
            DUE.is("an atom has a way, sort " + sort, hasWay, sort > 3);
            DUE.is("x first", g.node(1, 3), rows[sort] == 0 ? NONE : 10);
            DUE.is("the last one", g.node(1, 2 + rows[sort]), rows[sort] == 0 ? 0 : 9 + rows[sort]);
        }
    }

    @Sentence(in = "Terms", says = "Parts lie at most 20 deep in one another (NODE 0 is 0 deep).")
    static void partsLieAtMost20Deep() {
        for (int sort = Sorts.ROW; sort <= Sorts.TEST; sort++) {
            GoalOrder g = new GoalOrder();
            int deepest = 0;
            for (int depth = 1; depth <= 20; depth++) {
                deepest = g.add(deepest, sort, 0);
                DUE.is("depth " + depth + ", sort " + sort, deepest, depth);
            }
            DUE.is("depth 21, sort " + sort, g.add(deepest, sort, 0), NONE);
            DUE.is("an atom at depth 21", g.add(deepest, Sorts.TRUE, 0), NONE);
        }
    }

    @Sentence(in = "Terms", says = "Parts lie at most 20 deep in one another (NODE 0 is 0 deep).")
    static void whatIs20DeepCanBeDone() {
        for (int sort = Sorts.ROW; sort <= Sorts.NOT; sort++) {
            GoalOrder g = new GoalOrder();
            int deep = Trees.nest(g, sort, 19);
            int atom = Sorts.add(g, deep, Sorts.COMPARE, 59);
            DUE.is("20 deep in sort " + sort, atom, 20);
            DUE.is("can't be done", g.order(), 1);
            DUE.is("the deepest", g.stuck(), atom);
            g.given(59, true);
            DUE.is("can be done", g.order(), 0);
            DUE.is("ground there", g.ground(atom, 59), true);
        }
    }

    @Sentence(in = "Terms", says = "Parts lie at most 20 deep in one another (NODE 0 is 0 deep).")
    static void testsCanLie20Deep() {
        for (int place = 0; place < 3; place++) {
            GoalOrder g = new GoalOrder();
            int atom = nestTests(g, place);
            DUE.is("can't be done", g.order(), 1);
            DUE.is("the deepest, by part " + place, g.stuck(), atom);
            g.given(59, true);
            DUE.is("can be done", g.order(), 0);
            DUE.is("its way", g.node(atom, -1), 1);
        }
    }

    /** 19 tests, each the part at that place of the one before; the deepest has a COMPARE there. */
    private static int nestTests(GoalOrder g, int place) {
        int parent = 0;
        for (int depth = 1; depth <= 19; depth++) {
            int test = g.add(parent, Sorts.TEST, 0);
            for (int k = 0; parent != 0 && k < 2 - place; k++) {
                g.add(parent, Sorts.TRUE, 0);
            }
            for (int k = 0; k < place; k++) {
                g.add(test, Sorts.TRUE, 0);
            }
            parent = test;
        }
        int atom = Sorts.add(g, parent, Sorts.COMPARE, 59);
        for (int k = 0; k < 2 - place; k++) {
            g.add(parent, Sorts.TRUE, 0);
        }
        return atom;
    }
}
