import java.util.Arrays;

/** Terms: what can be done when, with no variable ground, with each set of an atom's own, and with all but one. */
public final class BoundariesOfWaysTest {
    private static final int NONE = GoalOrder.NONE;
    private static final long ALL = (1L << 60) - 1;
    private static final Due DUE = new Due();

    public static void main(String[] args) {
        Sentences.run(BoundariesOfWaysTest.class, DUE);
    }

    private static int[] row(int... variables) {
        return variables;
    }

    /** Tries an atom: its way, and behind it what was ahead with the made ones. */
    private static void due(int sort, int[] row, long ahead, int way, long made) {
        Tried tried = Tried.atom(DUE, sort, row, ahead);
        String what = "sort " + sort + " of " + row.length + " with " + Long.toBinaryString(ahead);
        DUE.is(what, tried.way, way);
        DUE.is(what + ", behind it", tried.behind, way == NONE ? 0L : ahead | made);
    }

    /** A row of so many variables, on both sides of the middle of a long, the largest and the least among them. */
    private static int[] longRow(int many) {
        return Arrays.copyOf(new int[] {30, 59, 0, 31, 32, 58, 33}, many);
    }

    /** Those of a row whose places are bits of a number. */
    private static long chosen(int[] row, int places) {
        long set = 0L;
        for (int k = 0; k < row.length; k++) {
            set |= (places >> k & 1) != 0 ? 1L << row[k] : 0L;
        }
        return set;
    }

    @Sentence(in = "Terms", says = "TRUE, FAIL: WAY 0, nothing changes.")
    static void trueAndFail() {
        for (int sort = Sorts.TRUE; sort <= Sorts.FAIL; sort++) {
            due(sort, row(), 0L, 0, 0L);
            due(sort, row(), ALL, 0, 0L);
        }
    }

    @Sentence(in = "Terms", says = "SAME: both GROUND: WAY 1; the first alone: WAY 2, the second becomes GROUND; "
        + "the second alone: WAY 3, the first does")
    static void sameByWhichAreGround() {
        due(Sorts.SAME, row(0, 59), Tried.set(0, 59), 1, 0L);
        due(Sorts.SAME, row(0, 59), Tried.set(0), 2, Tried.set(59));
        due(Sorts.SAME, row(0, 59), Tried.set(59), 3, Tried.set(0));
        due(Sorts.SAME, row(0, 59), ALL, 1, 0L);
    }

    @Sentence(in = "Terms", says = "(x and x: both or none); else it can't.")
    static void sameOfXAndX() {
        due(Sorts.SAME, row(59, 59), Tried.set(59), 1, 0L);
        due(Sorts.SAME, row(59, 59), 0L, NONE, 0L);
        due(Sorts.SAME, row(59, 59), ALL ^ Tried.set(59), NONE, 0L);
        due(Sorts.SAME, row(0, 59), 0L, NONE, 0L);
        due(Sorts.SAME, row(0, 59), ALL ^ Tried.set(0, 59), NONE, 0L);
    }

    @Sentence(in = "Terms", says = "DIFFER, COMPARE: WAY 1 if all are GROUND.")
    static void differAndCompareWithEachSet() {
        for (int many = 0; many <= 6; many++) {
            int[] row = longRow(many);
            int all = (1 << many) - 1;
            for (int places = 0; places <= all; places++) {
                int way = places == all ? 1 : NONE;
                due(Sorts.COMPARE, row, chosen(row, places), way, 0L);
                if (many == 2) {
                    due(Sorts.DIFFER, row, chosen(row, places), way, 0L);
                }
            }
        }
    }

    @Sentence(in = "Terms", says = "DIFFER, COMPARE: WAY 1 if all are GROUND.")
    static void differAndCompareOfXAndX() {
        due(Sorts.DIFFER, row(7, 7), 0L, NONE, 0L);
        due(Sorts.DIFFER, row(7, 7), Tried.set(7), 1, 0L);
        due(Sorts.COMPARE, row(7, 7, 7, 7, 7, 7), 0L, NONE, 0L);
        due(Sorts.COMPARE, row(7, 7, 7, 7, 7, 7), Tried.set(7), 1, 0L);
    }

    @Sentence(in = "Terms", says = "NUMBER: WAY 1 if x is GROUND, else 2, x becomes GROUND.")
    static void number() {
        for (int x : row(0, 31, 32, 59)) {
            due(Sorts.NUMBER, row(x), Tried.set(x), 1, 0L);
            due(Sorts.NUMBER, row(x), 0L, 2, Tried.set(x));
            due(Sorts.NUMBER, row(x), ALL ^ Tried.set(x), 2, Tried.set(x));
        }
    }

    @Sentence(in = "Terms", says = "SUM: the others must be GROUND; WAY 1 if x is, else 2, x becomes GROUND.")
    static void sumWithEachSet() {
        for (int many = 1; many <= 7; many++) {
            int[] row = longRow(many);
            int all = (1 << many) - 1;
            for (int places = 0; places <= all; places++) {
                int way = (places | 1) != all ? NONE : places == all ? 1 : 2;
                due(Sorts.SUM, row, chosen(row, places), way, Tried.set(row[0]));
            }
        }
    }

    @Sentence(in = "Terms", says = "SUM: the others must be GROUND; WAY 1 if x is, else 2, x becomes GROUND.")
    static void sumOfXAndX() {
        due(Sorts.SUM, row(5, 5), 0L, NONE, 0L);
        due(Sorts.SUM, row(5, 5), Tried.set(5), 1, 0L);
        due(Sorts.SUM, row(5, 6, 6, 6, 6, 6, 5), Tried.set(6), NONE, 0L);
        due(Sorts.SUM, row(5, 6, 6, 6, 6, 6, 5), Tried.set(5, 6), 1, 0L);
    }

    @Sentence(in = "Terms", says = "FORM: x is GROUND: WAY 1, all others become GROUND; else, if all others are: "
        + "WAY 2, x becomes GROUND; else it can't.")
    static void formWithEachSet() {
        for (int many = 1; many <= 5; many++) {
            int[] row = longRow(many);
            int all = (1 << many) - 1;
            for (int places = 0; places <= all; places++) {
                int way = (places & 1) != 0 ? 1 : (places | 1) == all ? 2 : NONE;
                due(Sorts.FORM, row, chosen(row, places), way, chosen(row, all));
            }
        }
    }

    @Sentence(in = "Terms", says = "FORM: x is GROUND: WAY 1, all others become GROUND; else, if all others are: "
        + "WAY 2, x becomes GROUND; else it can't.")
    static void formOfXAndX() {
        due(Sorts.FORM, row(5, 5), 0L, NONE, 0L);
        due(Sorts.FORM, row(5, 5), Tried.set(5), 1, 0L);
        due(Sorts.FORM, row(5, 6, 6, 6, 5), Tried.set(6), NONE, 0L);
        due(Sorts.FORM, row(5, 6, 6, 6, 5), Tried.set(5), 1, Tried.set(6));
    }

    private static void dueCall(int[] modes, int[] row, long ahead, int way) {
        Tried tried = Tried.call(DUE, modes, row, ahead);
        String what = "a call of " + row.length + " with " + modes.length + " modes and " + Long.toBinaryString(ahead);
        DUE.is(what, tried.way, way);
        DUE.is(what + ", behind it", tried.behind, way == NONE ? 0L : ahead | Tried.set(row));
    }

    @Sentence(in = "Terms", says = "CALL: the first MODE of which all IN ones are GROUND: WAY that, "
        + "all others become GROUND")
    static void callWithEachSetAndEachMode() {
        for (int many = 0; many <= 6; many++) {
            int[] row = longRow(many);
            int all = (1 << many) - 1;
            for (int outs = 0; outs <= all; outs++) {
                for (int places = 0; places <= all; places++) {
                    dueCall(row(outs), row, chosen(row, places), (places | outs) == all ? 0 : NONE);
                }
            }
        }
    }

    @Sentence(in = "Terms", says = "CALL: the first MODE of which all IN ones are GROUND: WAY that, "
        + "all others become GROUND")
    static void callTakesTheFirstOfFourModes() {
        int[] modes = {6, 5, 3, 7};
        int[] row = {0, 30, 59};
        dueCall(modes, row, 0L, 3);
        dueCall(modes, row, Tried.set(59), 2);
        dueCall(modes, row, Tried.set(30), 1);
        dueCall(modes, row, Tried.set(0), 0);
        dueCall(modes, row, Tried.set(30, 59), 1);
        dueCall(modes, row, ALL, 0);
        dueCall(row(0, 0, 0, 4), row, Tried.set(0, 30), 3);
        dueCall(row(7, 7, 7, 7), row, 0L, 0);
    }

    @Sentence(in = "Terms", says = "CALL: the first MODE of which all IN ones are GROUND: WAY that")
    static void callOfTheFirstAndTheLastPredicate() {
        for (int able : row(0, 59)) {
            GoalOrder g = new GoalOrder();
            for (int predicate = 0; predicate < 60; predicate++) {
                g.predicate(1);
                g.mode(predicate, predicate == able ? 1 : 0);
            }
            int call = Sorts.call(g, 0, Sorts.CALL, able, 0);
            DUE.is("its own mode", g.order(), 0);
            DUE.is("that", g.node(call, -1), 0);
            int other = Sorts.call(g, 0, Sorts.CALL, 59 - able, 59);
            DUE.is("the other one's mode", g.order(), 1);
            DUE.is("can't be done", g.stuck(), other);
        }
    }

    @Sentence(in = "Terms", says = "without such a MODE it can't.")
    static void callWithoutSuchAMode() {
        for (int many = 0; many <= 6; many++) {
            dueCall(row(), longRow(many), 0L, NONE);
            dueCall(row(), longRow(many), ALL, NONE);
            dueCall(row(0, 0, 0, 0), longRow(many), 0L, many == 0 ? 0 : NONE);
        }
        dueCall(row(1, 1, 1, 1), row(3, 4), ALL ^ Tried.set(4), NONE);
        dueCall(row(1), row(4, 4), 0L, NONE);
        dueCall(row(1), row(4, 4), Tried.set(4), 0);
        dueCall(row(3), row(4, 4), 0L, 0);
    }

    private static void dueCompared(int[] row, long ahead, int... places) {
        int due = 0;
        for (int k : places) {
            due |= 1 << k;
        }
        DUE.is("compared with " + Long.toBinaryString(ahead), Tried.atom(DUE, Sorts.FORM, row, ahead).compared, due);
    }

    @Sentence(in = "Terms", says = "Of a FORM with WAY 1 and a CALL the others that were GROUND ahead "
        + "(of a CALL: the OUT ones), and those that stand there again")
    static void comparedOfAForm() {
        dueCompared(row(59), Tried.set(59));
        dueCompared(row(59), 0L);
        dueCompared(row(59, 1, 2, 3, 0), Tried.set(59));
        dueCompared(row(59, 1, 2, 3, 0), ALL, 1, 2, 3, 4);
        dueCompared(row(59, 1, 2, 3, 0), Tried.set(59, 0), 4);
        dueCompared(row(59, 1, 2, 3, 0), Tried.set(59, 1), 1);
    }

    @Sentence(in = "Terms", says = "and those that stand there again (behind x, or behind another OUT one), are COMPARED.")
    static void comparedOfAFormWithXAgain() {
        dueCompared(row(5, 5), Tried.set(5), 1);
        dueCompared(row(5, 5, 5, 5, 5), Tried.set(5), 1, 2, 3, 4);
        dueCompared(row(5, 6, 6, 6, 6), Tried.set(5), 2, 3, 4);
        dueCompared(row(5, 6, 7, 6, 7), Tried.set(5), 3, 4);
        dueCompared(row(5, 6, 7, 8, 5), Tried.set(5), 4);
    }

    @Sentence(in = "Terms", says = "Of a FORM with WAY 1 and a CALL the others that were GROUND ahead")
    static void nothingIsComparedOfAFormWithWay2() {
        dueCompared(row(5, 6, 6, 6, 6), Tried.set(6));
        dueCompared(row(5, 6, 7, 8, 9), ALL ^ Tried.set(5));
    }

    private static void dueComparedCall(int outs, int[] row, long ahead, int... places) {
        int due = 0;
        for (int k : places) {
            due |= 1 << k;
        }
        DUE.is("outs " + outs + " with " + Long.toBinaryString(ahead), Tried.call(DUE, row(outs), row, ahead).compared, due);
    }

    @Sentence(in = "Terms", says = "the others that were GROUND ahead (of a CALL: the OUT ones)")
    static void comparedOfACallAreTheOutOnes() {
        int[] row = longRow(6);
        for (int outs = 0; outs < 64; outs++) {
            DUE.is("all ground, outs " + outs, Tried.call(DUE, row(outs), row, ALL).compared, outs);
            long ins = chosen(row, ~outs);
            DUE.is("the in ones ground, outs " + outs, Tried.call(DUE, row(outs), row, ins).compared, 0);
        }
        dueComparedCall(-1, row, ALL, 0, 1, 2, 3, 4, 5);
        dueComparedCall(-64, row, ALL);
        dueComparedCall(0, row(), ALL);
        dueComparedCall(-1, row(), ALL);
    }

    @Sentence(in = "Terms", says = "and those that stand there again (behind x, or behind another OUT one), are COMPARED.")
    static void comparedOfACallBehindAnotherOutOne() {
        dueComparedCall(63, row(4, 4, 4, 4, 4, 4), 0L, 1, 2, 3, 4, 5);
        dueComparedCall(63, row(4, 5, 6, 4, 5, 6), 0L, 3, 4, 5);
        dueComparedCall(33, row(4, 5, 5, 5, 5, 4), Tried.set(5), 5);
        dueComparedCall(62, row(4, 4, 5, 5, 6, 7), Tried.set(4), 1, 3);
        dueComparedCall(1, row(4, 4), Tried.set(4), 0);
    }

    @Sentence(in = "Terms", says = "the others that were GROUND ahead (of a CALL: the OUT ones)")
    static void comparedByTheModeThatIsTaken() {
        DUE.is("the last mode", Tried.call(DUE, row(1, 1, 1, 2), row(4, 5), Tried.set(4)).compared, 0);
        DUE.is("the first mode", Tried.call(DUE, row(1, 2, 3, 3), row(4, 5), ALL).compared, 1);
        DUE.is("a mode of in ones", Tried.call(DUE, row(0, 3, 3, 3), row(4, 5), ALL).compared, 0);
    }

    @Sentence(in = "Terms", says = "are COMPARED.")
    static void nothingElseIsCompared() {
        int[] sorts = {Sorts.SAME, Sorts.DIFFER, Sorts.SUM, Sorts.COMPARE};
        for (int sort : sorts) {
            DUE.is("sort " + sort, Tried.atom(DUE, sort, row(5, 5), ALL).compared, 0);
        }
        DUE.is("a number", Tried.atom(DUE, Sorts.NUMBER, row(5), ALL).compared, 0);
        DUE.is("a same that makes", Tried.atom(DUE, Sorts.SAME, row(5, 6), Tried.set(5)).compared, 0);
    }
}
