/** Terms, from ROW to what TO ORDER the tree is, and promises 9 and 10. */
public final class BoundariesOfOrderTest {
    private static final int NONE = GoalOrder.NONE;
    private static final Due DUE = new Due();

    public static void main(String[] args) {
        Sentences.run(BoundariesOfOrderTest.class, DUE);
    }

    private static void dueFault(String what, GoalOrder g, int fault, int stuck) {
        DUE.is(what + ": order()", g.order(), fault);
        DUE.is(what + ": stuck()", g.stuck(), stuck);
    }

    private static void dueDone(String what, GoalOrder g) {
        dueFault(what, g, 0, NONE);
    }

    // ROW

    @Sentence(in = "Terms", says = "it can't if PARTS are left and none of them can.")
    static void aRowWithoutPartsCan() {
        GoalOrder g = new GoalOrder();
        dueDone("node 0 alone", g);
        int inner = g.add(0, Sorts.ROW, 0);
        dueDone("an empty row in it", g);
        DUE.is("is done", g.part(0, 0), inner);
        DUE.is("has no part", g.part(inner, 0), NONE);
    }

    @Sentence(in = "Terms", says = "it can't if PARTS are left and none of them can.")
    static void aRowWithOnePartThatIsLeftCant() {
        GoalOrder g = new GoalOrder();
        for (int k = 0; k < 248; k++) {
            g.add(0, Sorts.TRUE, 0);
        }
        int last = Sorts.add(g, 0, Sorts.NOT);
        dueFault("all but the last", g, 1, last);
        g.clear();
        int first = g.add(0, Sorts.NOT, 0);
        for (int k = 0; k < 75; k++) {
            g.add(0, Sorts.TRUE, 0);
        }
        dueFault("all but the first", g, 1, first);
    }

    @Sentence(in = "Terms", says = "the PARTS that are left are TRIED from the left, with the set as it is by then, "
        + "until one can be done: that is done")
    static void aRowGoesBackToTheLeft() {
        GoalOrder g = new GoalOrder();
        for (int x = 0; x < 59; x++) {
            Sorts.add(g, 0, Sorts.SAME, x, x + 1);
        }
        Sorts.add(g, 0, Sorts.NUMBER, 59);
        dueDone("60 parts, each waiting for the next one", g);
        for (int k = 0; k < 60; k++) {
            DUE.is("part " + k, g.part(0, k), 60 - k);
            DUE.is("way of node " + (60 - k), g.node(60 - k, -1), k == 0 ? 2 : 3);
        }
        DUE.is("and no more", g.part(0, 60), NONE);
    }

    @Sentence(in = "Terms", says = "Its PARTS' ORDER is that in which they were done.")
    static void theOrderOfEachRow() {
        GoalOrder g = new GoalOrder();
        int inner = g.add(0, Sorts.ROW, 0);
        int compare = Sorts.add(g, inner, Sorts.COMPARE, 1);
        int number = Sorts.add(g, inner, Sorts.NUMBER, 1);
        int same = Sorts.add(g, 0, Sorts.TRUE);
        dueDone("a row in a row", g);
        DUE.is("the inner row first", g.part(0, 0), inner);
        DUE.is("then what is behind it", g.part(0, 1), same);
        DUE.is("in it the number", g.part(inner, 0), number);
        DUE.is("then the compare", g.part(inner, 1), compare);
        g.given(1, true);
        dueDone("ground at first", g);
        DUE.is("the compare first", g.part(inner, 0), compare);
        DUE.is("then the number", g.part(inner, 1), number);
    }

    // OUTER

    @Sentence(in = "Terms", says = "A variable is OUTER of a NODE if it is WANTED, or an ATOM that isn't within the NODE has it.")
    static void outerOfNode0AreTheWantedAlone() {
        GoalOrder g = new GoalOrder();
        for (int x = 0; x < 60; x++) {
            Sorts.add(g, 0, Sorts.NUMBER, x);
        }
        for (int x = 0; x < 60; x++) {
            DUE.is("outer(0, " + x + ")", g.outer(0, x), false);
        }
        for (int x = 0; x < 60; x++) {
            DUE.is("of its own atom, " + x, g.outer(1 + x, x), false);
            DUE.is("of another atom, " + x, g.outer(1 + (x + 1) % 60, x), true);
        }
        for (int x : new int[] {0, 59}) {
            g.wanted(x, true);
            DUE.is("wanted, of node 0, " + x, g.outer(0, x), true);
            DUE.is("wanted, of its own atom, " + x, g.outer(1 + x, x), true);
        }
    }

    @Sentence(in = "Terms", says = "or an ATOM that isn't within the NODE has it.")
    static void anAtom20DeepIsWithinAllAboveIt() {
        GoalOrder g = new GoalOrder();
        int deep = Trees.nest(g, Sorts.CHOICE, 19);
        int atom = Sorts.add(g, deep, Sorts.COMPARE, 59, 0);
        for (int node = 0; node <= atom; node++) {
            DUE.is("of " + node, g.outer(node, 59), false);
        }
        int beside = Sorts.add(g, deep, Sorts.COMPARE, 0);
        for (int node = 0; node <= atom; node++) {
            DUE.is("beside it, of " + node, g.outer(node, 0), node == atom);
        }
        DUE.is("the first, of what is beside it", g.outer(beside, 59), true);
        int top = Sorts.add(g, 0, Sorts.COMPARE, 59);
        for (int node = 0; node <= top; node++) {
            DUE.is("at the top too, of " + node, g.outer(node, 59), node > 0);
        }
    }

    // CHOICE

    @Sentence(in = "Terms", says = "CHOICE: the PARTS are TRIED from the left with the set ahead, and each must be doable")
    static void eachPartOfAChoiceHasTheSetAhead() {
        GoalOrder g = new GoalOrder();
        int choice = g.add(0, Sorts.CHOICE, 0);
        int first = Sorts.add(g, choice, Sorts.NUMBER, 0);
        int second = Sorts.add(g, choice, Sorts.COMPARE, 0);
        dueFault("what the first makes isn't ground for the second", g, 1, second);
        g.given(0, true);
        dueDone("it is ground ahead", g);
        DUE.is("for the first", g.ground(first, 0), true);
        DUE.is("for the second", g.ground(second, 0), true);
        g.clear();
        choice = g.add(0, Sorts.CHOICE, 0);
        int stuck = Sorts.add(g, choice, Sorts.COMPARE, 0);
        Sorts.add(g, choice, Sorts.COMPARE, 1);
        dueFault("of two that can't the first", g, 1, stuck);
    }

    @Sentence(in = "Terms", says = "(Without PARTS: nothing changes.)")
    static void aChoiceWithoutParts() {
        GoalOrder g = new GoalOrder();
        int choice = g.add(0, Sorts.CHOICE, 0);
        int behind = Sorts.add(g, 0, Sorts.COMPARE, 1);
        g.wanted(1, true);
        dueFault("makes nothing ground", g, 1, behind);
        g.given(1, true);
        dueDone("takes nothing away", g);
        DUE.is("ground behind it", g.ground(behind, 1), true);
        DUE.is("not what isn't given", g.ground(behind, 2), false);
        DUE.is("no part", g.part(choice, 0), NONE);
    }

    @Sentence(in = "Terms", says = "An OUTER variable that isn't in that set must be GROUND behind each PART or behind none: "
        + "else it can't; those that are behind each become GROUND.")
    static void aChoiceOfOnePart() {
        GoalOrder g = new GoalOrder();
        int choice = g.add(0, Sorts.CHOICE, 0);
        Sorts.add(g, choice, Sorts.FORM, 0, 1, 2);
        int behind = Sorts.add(g, 0, Sorts.COMPARE, 1);
        g.given(0, true);
        dueDone("one part", g);
        DUE.is("outer: ground behind it", g.ground(behind, 1), true);
        DUE.is("not outer: it isn't", g.ground(behind, 2), false);
    }

    @Sentence(in = "Terms", says = "must be GROUND behind each PART or behind none: else it can't")
    static void aChoiceOf100PartsOneOfWhichDiffers() {
        for (int odd : new int[] {0, 1, 98, 99, -1}) {
            GoalOrder g = new GoalOrder();
            g.given(59, true);
            g.wanted(0, true);
            int choice = g.add(0, Sorts.CHOICE, 0);
            for (int k = 0; k < 100; k++) {
                Sorts.add(g, choice, Sorts.NUMBER, k == odd ? 59 : 0);
            }
            dueFault("all but " + odd, g, odd < 0 ? 0 : 1, odd < 0 ? NONE : choice);
            g.clear();
            g.wanted(0, true);
            choice = g.add(0, Sorts.CHOICE, 0);
            for (int k = 0; k < 100; k++) {
                Sorts.add(g, choice, k == odd ? Sorts.NUMBER : Sorts.TRUE, k == odd ? new int[] {0} : new int[] {});
            }
            dueFault("none but " + odd, g, odd < 0 ? 2 : 1, odd < 0 ? 0 : choice);
        }
    }

    @Sentence(in = "Terms", says = "An OUTER variable that isn't in that set must be GROUND")
    static void aChoiceMayDifferInWhatIsInTheSetOrIsntOuter() {
        GoalOrder g = new GoalOrder();
        int choice = g.add(0, Sorts.CHOICE, 0);
        Sorts.add(g, choice, Sorts.NUMBER, 0);
        g.add(choice, Sorts.TRUE, 0);
        dueDone("not outer", g);
        g.wanted(0, true);
        dueFault("outer", g, 1, choice);
        g.given(0, true);
        dueDone("outer, in the set", g);
    }

    @Sentence(in = "Terms", says = "(behind one that isn't none is TRIED; so it is below)")
    static void aChoiceIsTriedUpToTheFirstThatCant() {
        for (int stuck = 0; stuck < 3; stuck++) {
            for (int more = 0; more <= 1; more++) {
                GoalOrder g = Trees.heavy(36 - stuck + more);
                int choice = g.add(0, Sorts.CHOICE, 0);
                for (int k = 0; k < 3; k++) {
                    Sorts.add(g, choice, k == stuck ? Sorts.COMPARE : Sorts.NUMBER, 40 + k);
                }
                dueFault("20,000 tries and " + more, g, more == 0 ? 1 : 3, more == 0 ? choice + 1 + stuck : NONE);
            }
        }
    }

    // NOT

    @Sentence(in = "Terms", says = "NOT: its PART is TRIED, must be doable, and make no OUTER variable GROUND; "
        + "nothing changes then.")
    static void aNotMakesNoOuterVariableGround() {
        for (int x : new int[] {0, 59}) {
            GoalOrder g = new GoalOrder();
            int not = g.add(0, Sorts.NOT, 0);
            int part = Sorts.add(g, not, Sorts.NUMBER, x);
            int behind = g.add(0, Sorts.TRUE, 0);
            dueDone("not outer", g);
            DUE.is("nothing changes", g.ground(behind, x), false);
            g.wanted(x, true);
            dueFault("wanted", g, 1, not);
            g.given(x, true);
            dueDone("wanted, but ground ahead", g);
            g.wanted(x, false);
            g.given(x, false);
            int other = Sorts.add(g, 0, Sorts.COMPARE, x);
            dueFault("another atom has it", g, 1, not);
            Sorts.add(g, 0, Sorts.NUMBER, x);
            dueDone("and a third one makes it", g);
            DUE.is("the not waits", g.part(0, 2), not);
            DUE.is("what needs it comes then", g.part(0, 3), other);
            DUE.is("its part is a check", g.node(part, -1), 1);
        }
    }

    @Sentence(in = "Terms", says = "NOT: its PART is TRIED, must be doable")
    static void aNotsPartMustBeDoable() {
        GoalOrder g = new GoalOrder();
        int not = g.add(0, Sorts.NOT, 0);
        int part = Sorts.add(g, not, Sorts.DIFFER, 0, 59);
        dueFault("none ground", g, 1, part);
        g.given(0, true);
        dueFault("one ground", g, 1, part);
        g.given(59, true);
        dueDone("both ground", g);
    }

    @Sentence(in = "Terms", says = "NOT with no PART, TEST with less than three can't be done.")
    static void aNotWithNoPartCantBeDone() {
        GoalOrder g = new GoalOrder();
        int not = g.add(0, Sorts.NOT, 0);
        dueFault("no part", g, 1, not);
        g.add(not, Sorts.ROW, 0);
        dueDone("an empty row", g);
    }

    // TEST

    @Sentence(in = "Terms", says = "NOT with no PART, TEST with less than three can't be done.")
    static void aTestWithLessThanThreeCantBeDone() {
        for (int sort : new int[] {Sorts.ROW, Sorts.CHOICE, Sorts.TRUE, Sorts.FAIL}) {
            GoalOrder g = new GoalOrder();
            int test = g.add(0, Sorts.TEST, 0);
            for (int k = 0; k < 3; k++) {
                dueFault(k + " parts of sort " + sort, g, 1, test);
                g.add(test, sort, 0);
            }
            dueDone("three parts of sort " + sort, g);
        }
    }

    /** A test at the end of node 0, of atoms that are each told as a sort and its row. */
    private static int addTest(GoalOrder g, int[]... parts) {
        int test = g.add(0, Sorts.TEST, 0);
        for (int[] part : parts) {
            int[] row = new int[part.length - 1];
            System.arraycopy(part, 1, row, 0, row.length);
            Sorts.add(g, test, part[0], row);
        }
        return test;
    }

    private static int[] atom(int... sortAndRow) {
        return sortAndRow;
    }

    @Sentence(in = "Terms", says = "TEST: the first PART is TRIED, must be doable, and make no variable GROUND")
    static void whatIsAskedMustBeDoable() {
        GoalOrder g = new GoalOrder();
        int test = addTest(g, atom(Sorts.DIFFER, 0, 59), atom(Sorts.TRUE), atom(Sorts.TRUE));
        dueFault("none ground", g, 1, test + 1);
        g.given(59, true);
        dueFault("one ground", g, 1, test + 1);
        g.given(0, true);
        dueDone("both ground", g);
    }

    @Sentence(in = "Terms", says = "and make no variable GROUND that is OUTER of the TEST, "
        + "or that an ATOM within the third PART has")
    static void whatIsAskedMakesNoOuterVariableGround() {
        GoalOrder g = new GoalOrder();
        int test = addTest(g, atom(Sorts.NUMBER, 59), atom(Sorts.COMPARE, 59), atom(Sorts.TRUE));
        dueDone("the second may have it", g);
        g.wanted(59, true);
        dueFault("wanted", g, 1, test);
        g.given(59, true);
        dueDone("wanted, but ground ahead", g);
        g.wanted(59, false);
        g.given(59, false);
        Sorts.add(g, 0, Sorts.COMPARE, 59);
        dueFault("another atom has it", g, 1, test);
        Sorts.add(g, 0, Sorts.NUMBER, 59);
        dueDone("another one makes it", g);
    }

    @Sentence(in = "Terms", says = "or that an ATOM within the third PART has")
    static void whatIsAskedMakesNothingThatTheThirdHas() {
        GoalOrder g = new GoalOrder();
        int test = addTest(g, atom(Sorts.NUMBER, 0), atom(Sorts.TRUE), atom(Sorts.NUMBER, 0));
        dueFault("the third is the atom", g, 1, test);
        g.given(0, true);
        dueDone("it is ground ahead", g);
        g.clear();
        test = addTest(g, atom(Sorts.NUMBER, 0), atom(Sorts.TRUE));
        int deep = test;
        for (int depth = 2; depth < 20; depth++) {
            deep = g.add(deep, Sorts.CHOICE, 0);
        }
        dueDone("a third with nothing in it", g);
        int atom = Sorts.add(g, deep, Sorts.NUMBER, 0);
        DUE.is("an atom in it", g.node(atom, 0), Sorts.NUMBER);
        dueFault("the atom is 20 deep", g, 1, test);
    }

    @Sentence(in = "Terms", says = "then the second one with the set behind the first one, "
        + "then the third one with the set ahead, which must be doable")
    static void theSecondAndTheThirdMustBeDoable() {
        GoalOrder g = new GoalOrder();
        int test = addTest(g, atom(Sorts.NUMBER, 0), atom(Sorts.SAME, 0, 1), atom(Sorts.COMPARE, 2));
        dueFault("the third can't", g, 1, test + 3);
        g.given(2, true);
        dueDone("all can", g);
        DUE.is("not ground for the first", g.ground(test + 1, 0), false);
        DUE.is("ground for the second", g.ground(test + 2, 0), true);
        DUE.is("not ground for the third", g.ground(test + 3, 0), false);
        DUE.is("the way of the second", g.node(test + 2, -1), 2);
        g.clear();
        test = addTest(g, atom(Sorts.TRUE), atom(Sorts.COMPARE, 1), atom(Sorts.COMPARE, 2));
        dueFault("the second comes first", g, 1, test + 2);
        g.clear();
        test = addTest(g, atom(Sorts.COMPARE, 0), atom(Sorts.COMPARE, 1), atom(Sorts.COMPARE, 2));
        dueFault("the first comes first", g, 1, test + 1);
    }

    @Sentence(in = "Terms", says = "an OUTER variable that isn't in the set ahead must be GROUND behind both or neither; "
        + "those behind both become GROUND.")
    static void bothOrNeither() {
        for (int makers = 0; makers < 4; makers++) {
            GoalOrder g = new GoalOrder();
            int[] makes = atom(Sorts.NUMBER, 59);
            int[] nothing = atom(Sorts.TRUE);
            int test = addTest(g, nothing, (makers & 1) != 0 ? makes : nothing, (makers & 2) != 0 ? makes : nothing);
            int behind = g.add(0, Sorts.TRUE, 0);
            dueDone("not outer, by " + makers, g);
            DUE.is("not outer: not ground behind", g.ground(behind, 59), false);
            g.wanted(59, true);
            int fault = makers == 0 ? 2 : makers == 3 ? 0 : 1;
            dueFault("outer, by " + makers, g, fault, makers == 0 ? 59 : makers == 3 ? NONE : test);
            DUE.is("outer: ground behind if both make it", g.ground(behind, 59), makers == 3);
            g.given(59, true);
            dueDone("ground ahead, by " + makers, g);
        }
    }

    // TO ORDER

    @Sentence(in = "Terms", says = "TO ORDER the tree: NODE 0 is TRIED with the variables that are GIVEN.")
    static void withNoneAndWithAllGiven() {
        GoalOrder g = new GoalOrder();
        dueDone("none given", g);
        for (int x = 0; x < 60; x++) {
            DUE.is("ground(0, " + x + ")", g.ground(0, x), false);
        }
        for (int x = 0; x < 60; x++) {
            g.given(x, true);
        }
        dueDone("all given", g);
        for (int x = 0; x < 60; x++) {
            DUE.is("ground(0, " + x + ")", g.ground(0, x), true);
        }
    }

    @Sentence(in = "Terms", says = "If more than 20,000 times a NODE would be TRIED: FAULT 3.")
    static void exactly20000Times() {
        dueDone("19,999 tries", Trees.heavy(37));
        dueDone("20,000 tries", Trees.heavy(38));
        dueFault("20,001 tries", Trees.heavy(39), 3, NONE);
        dueFault("20,002 tries", Trees.heavy(40), 3, NONE);
    }

    @Sentence(in = "Terms", says = "If more than 20,000 times a NODE would be TRIED: FAULT 3.")
    static void fault3ComesAheadOfTheOthers() {
        for (int more = 0; more <= 1; more++) {
            GoalOrder g = Trees.heavy(37 + more);
            int last = Sorts.add(g, 0, Sorts.COMPARE, 59);
            dueFault("the last one tried can't", g, more == 0 ? 1 : 3, more == 0 ? last : NONE);
            g = Trees.heavy(38 + more);
            g.wanted(59, true);
            dueFault("a wanted one is missing", g, more == 0 ? 2 : 3, more == 0 ? 59 : NONE);
        }
    }

    @Sentence(in = "Terms", says = "If more than 20,000 times a NODE would be TRIED: FAULT 3.")
    static void triesThatDoubleWithEachRow() {
        for (int depth = 12; depth <= 20; depth++) {
            GoalOrder g = new GoalOrder();
            int deep = 0;
            for (int k = 1; k < depth; k++) {
                int inner = g.add(deep, Sorts.ROW, 0);
                g.add(deep, Sorts.TRUE, 0);
                deep = inner;
            }
            int atom = Sorts.add(g, deep, Sorts.COMPARE, 0);
            dueFault("depth " + depth, g, triesOf(depth) > 20000 ? 3 : 1, triesOf(depth) > 20000 ? NONE : atom);
        }
    }

    /** Each row tries what is in it, then its TRUE, then what is in it again. */
    private static long triesOf(int depth) {
        long tries = 2;
        for (int k = 1; k < depth; k++) {
            tries = 2 + 2 * tries;
        }
        return tries;
    }

    @Sentence(in = "Terms", says = "If more than 20,000 times a NODE would be TRIED: FAULT 3.")
    static void triesAreCountedAnewByEachOrder() {
        GoalOrder g = Trees.heavy(38);
        for (int k = 0; k < 5; k++) {
            dueDone("order() " + k, g);
        }
        int last = g.add(0, Sorts.TRUE, 0);
        dueFault("one more", g, 3, NONE);
        dueFault("again", g, 3, NONE);
        g.given(0, true);
        dueDone("with nothing to wait for", g);
        DUE.is("the last one", g.part(0, g.node(0, 1) - 1), last);
    }

    @Sentence(in = "Terms", says = "of a ROW that can't the leftmost PART that is left, by itself if it is an ATOM")
    static void stuckIsTheLeftmostThatIsLeft() {
        GoalOrder g = new GoalOrder();
        int[] compares = new int[60];
        for (int x = 0; x < 60; x++) {
            compares[x] = Sorts.add(g, 0, Sorts.COMPARE, x);
        }
        for (int x = 0; x < 60; x++) {
            dueFault("given up to " + (x - 1), g, 1, compares[x]);
            g.given(x, true);
        }
        dueDone("all given", g);
    }

    @Sentence(in = "Terms", says = "else by what holds for it: of NOT, CHOICE and TEST the PART that was TRIED and can't be done, "
        + "by the same rule; if there is none such the NODE itself")
    static void stuckThroughEachSort() {
        GoalOrder g = new GoalOrder();
        int row = g.add(0, Sorts.ROW, 0);
        int choice = g.add(row, Sorts.CHOICE, 0);
        int not = g.add(choice, Sorts.NOT, 0);
        int test = g.add(not, Sorts.TEST, 0);
        dueFault("the test has no part", g, 1, test);
        int inner = g.add(test, Sorts.ROW, 0);
        int atom = Sorts.add(g, inner, Sorts.COMPARE, 0);
        dueFault("the test has one", g, 1, test);
        g.add(test, Sorts.TRUE, 0);
        dueFault("the test has two", g, 1, test);
        g.add(test, Sorts.TRUE, 0);
        dueFault("the atom of a row of a test of a not of a choice of a row", g, 1, atom);
        g.given(0, true);
        dueDone("it can be done", g);
        Sorts.add(g, inner, Sorts.NUMBER, 1);
        g.wanted(1, true);
        dueFault("what is asked makes an outer one", g, 1, test);
    }

    @Sentence(in = "Terms", says = "if there is none such the NODE itself")
    static void stuckIsTheNodeItself() {
        GoalOrder g = new GoalOrder();
        int choice = g.add(0, Sorts.CHOICE, 0);
        int row = g.add(choice, Sorts.ROW, 0);
        Sorts.add(g, row, Sorts.NUMBER, 0);
        g.add(choice, Sorts.ROW, 0);
        g.wanted(0, true);
        dueFault("a choice", g, 1, choice);
        g.clear();
        int not = g.add(0, Sorts.NOT, 0);
        row = g.add(not, Sorts.ROW, 0);
        Sorts.add(g, row, Sorts.NUMBER, 0);
        g.wanted(0, true);
        dueFault("a not", g, 1, not);
        g.clear();
        int test = g.add(0, Sorts.TEST, 0);
        g.add(test, Sorts.ROW, 0);
        row = g.add(test, Sorts.ROW, 0);
        Sorts.add(g, row, Sorts.NUMBER, 0);
        g.add(test, Sorts.ROW, 0);
        g.wanted(0, true);
        dueFault("a test", g, 1, test);
    }

    @Sentence(in = "Terms", says = "(all by the latest time that it was TRIED)")
    static void stuckByTheLatestTime() {
        GoalOrder g = new GoalOrder();
        int choice = g.add(0, Sorts.CHOICE, 0);
        int first = Sorts.add(g, choice, Sorts.COMPARE, 0);
        int second = Sorts.add(g, choice, Sorts.COMPARE, 1);
        dueFault("tried once", g, 1, first);
        Sorts.add(g, 0, Sorts.NUMBER, 0);
        dueFault("tried again, when the first can", g, 1, second);
        g.clear();
        int not = g.add(0, Sorts.NOT, 0);
        int row = g.add(not, Sorts.ROW, 0);
        int compare = Sorts.add(g, row, Sorts.COMPARE, 0);
        Sorts.add(g, row, Sorts.NUMBER, 1);
        g.wanted(1, true);
        dueFault("tried once", g, 1, compare);
        Sorts.add(g, 0, Sorts.NUMBER, 0);
        dueFault("tried again, when its part can", g, 1, not);
    }

    @Sentence(in = "Terms", says = "Else, if a WANTED variable isn't GROUND behind it: FAULT 2 (the least such). Else 0.")
    static void theLeastThatIsWantedAndIsntGround() {
        GoalOrder g = new GoalOrder();
        for (int x = 0; x < 60; x++) {
            g.wanted(x, true);
        }
        for (int x = 0; x < 60; x++) {
            dueFault("ground up to " + (x - 1), g, 2, x);
            if (x % 2 == 0) {
                g.given(x, true);
            } else {
                Sorts.add(g, 0, Sorts.NUMBER, x);
            }
        }
        dueDone("all ground", g);
    }

    @Sentence(in = "Terms", says = "If it can't be done: FAULT 1")
    static void fault1ComesAheadOfFault2() {
        GoalOrder g = new GoalOrder();
        g.wanted(0, true);
        dueFault("wanted", g, 2, 0);
        int atom = Sorts.add(g, 0, Sorts.DIFFER, 1, 2);
        dueFault("wanted, and it can't be done", g, 1, atom);
        g.given(1, true);
        g.given(2, true);
        dueFault("wanted again", g, 2, 0);
    }

    // Promises 9 and 10

    @Sentence(in = "Promise 9", says = "ORDERS the tree: 0, or the FAULT.")
    static void promise9AgainIsTheSame() {
        for (String name : Trees.states().keySet()) {
            GoalOrder g = new GoalOrder();
            Trees.states().get(name).accept(g);
            int fault = g.order();
            int stuck = g.stuck();
            DUE.is("0 .. 3", fault >= 0 && fault <= 3, true);
            dueFault("again behind " + name, g, fault, stuck);
            DUE.alike("order() behind " + name, State.behind(Trees.states().get(name).andThen(GoalOrder::order)
                .andThen(GoalOrder::order)), State.behind(Trees.states().get(name).andThen(GoalOrder::order)));
        }
    }

    @Sentence(in = "Promise 9", says = "ORDERS the tree: 0, or the FAULT.")
    static void promise9LeavesTheRowAndTheTree() {
        GoalOrder g = new GoalOrder();
        Trees.putRow(g);
        dueDone("an empty tree", g);
        DUE.is("the row", g.add(0, Sorts.SUM, 0), 1);
        DUE.is("of three", g.node(1, 2), 3);
        dueFault("a sum", g, 1, 1);
        DUE.is("still of three", g.node(1, 2), 3);
        DUE.is("one part", g.node(0, 1), 1);
        DUE.is("nothing is given", g.given(8, false), false);
    }

    @Sentence(in = "Promise 10", says = "Of the latest order() of this tree, with FAULT 1 the STUCK NODE")
    static void promise10Fault1() {
        GoalOrder g = new GoalOrder();
        int first = g.add(0, Sorts.NOT, 0);
        dueFault("the least node that can be", g, 1, first);
        g.clear();
        for (int k = 0; k < 248; k++) {
            g.add(0, Sorts.TRUE, 0);
        }
        g.add(0, Sorts.NOT, 0);
        dueFault("the last node that can be", g, 1, 249);
    }

    @Sentence(in = "Promise 10", says = "with FAULT 2 the variable")
    static void promise10Fault2() {
        for (int x : new int[] {0, 1, 31, 32, 58, 59}) {
            GoalOrder g = new GoalOrder();
            g.wanted(x, true);
            dueFault("wanted " + x, g, 2, x);
        }
    }

    @Sentence(in = "Promise 10", says = "NONE else.")
    static void promise10NoneElse() {
        GoalOrder g = new GoalOrder();
        DUE.is("before any order()", g.stuck(), NONE);
        dueDone("0", g);
        dueFault("FAULT 3", Trees.heavy(39), 3, NONE);
        g.wanted(5, true);
        dueFault("FAULT 2", g, 2, 5);
        g.given(5, true);
        dueDone("0 behind a FAULT", g);
    }

    @Sentence(in = "Promise 10", says = "Of the latest order() of this tree")
    static void promise10NoneWithoutAnOrderOfThisTree() {
        GoalOrder g = new GoalOrder();
        g.predicate(0);
        g.add(0, Sorts.NOT, 0);
        dueFault("a not", g, 1, 1);
        g.add(0, Sorts.TRUE, 0);
        DUE.is("behind add()", g.stuck(), NONE);
        dueFault("a not", g, 1, 1);
        g.given(1, true);
        DUE.is("behind given()", g.stuck(), NONE);
        dueFault("a not", g, 1, 1);
        g.wanted(1, true);
        DUE.is("behind wanted()", g.stuck(), NONE);
        dueFault("a not", g, 1, 1);
        g.mode(0, 0);
        DUE.is("behind mode()", g.stuck(), NONE);
        dueFault("a not", g, 1, 1);
        g.clear();
        DUE.is("behind clear()", g.stuck(), NONE);
    }
}
