/** What came of trying one atom with a set of variables, as bits: its way, NONE when it can't, and the set behind it. */
final class Tried {
    final int way;
    final long behind;
    final int compared;

    /** Node 1 is the atom, and can be done at once or never; ahead of the TRUE that is node 2 stands what is behind it. */
    private Tried(GoalOrder g, int[] row, long ahead, Due due) {
        for (int x = 0; x < 60; x++) {
            if ((ahead >>> x & 1) != 0) {
                g.given(x, true);
            }
        }
        g.add(0, Sorts.TRUE, 0);
        int fault = g.order();
        due.is("stuck() of a row that answered " + fault, g.stuck(), fault == 0 ? GoalOrder.NONE : 1);
        way = fault == 0 ? g.node(1, -1) : GoalOrder.NONE;
        long set = 0L;
        for (int x = 0; x < 60; x++) {
            set |= g.ground(2, x) ? 1L << x : 0L;
        }
        behind = set;
        int places = 0;
        for (int k = 0; k < row.length; k++) {
            places |= g.compared(1, k) ? 1 << k : 0;
        }
        compared = places;
    }

    static Tried atom(Due due, int sort, int[] row, long ahead) {
        GoalOrder g = new GoalOrder();
        Sorts.add(g, 0, sort, row);
        return new Tried(g, row, ahead, due);
    }

    static Tried call(Due due, int[] modes, int[] row, long ahead) {
        GoalOrder g = new GoalOrder();
        g.predicate(row.length);
        for (int outs : modes) {
            g.mode(0, outs);
        }
        Sorts.call(g, 0, Sorts.CALL, 0, row);
        return new Tried(g, row, ahead, due);
    }

    static long set(int... variables) {
        long set = 0L;
        for (int x : variables) {
            set |= 1L << x;
        }
        return set;
    }
}
