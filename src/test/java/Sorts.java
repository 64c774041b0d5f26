/** The numbers of the sorts, and a shorter way to put in a node. */
final class Sorts {
    static final int ROW = 0;
    static final int CHOICE = 1;
    static final int NOT = 2;
    static final int TEST = 3;
    static final int TRUE = 4;
    static final int FAIL = 5;
    static final int SAME = 6;
    static final int DIFFER = 7;
    static final int FORM = 8;
    static final int NUMBER = 9;
    static final int SUM = 10;
    static final int COMPARE = 11;
    static final int CALL = 12;

    private Sorts() {
    }

    static int add(GoalOrder goals, int parent, int sort, int... variables) {
        return call(goals, parent, sort, GoalOrder.NONE, variables);
    }

    static int call(GoalOrder goals, int parent, int sort, int predicate, int... variables) {
        for (int x : variables) {
            goals.put(x);
        }
        return goals.add(parent, sort, predicate);
    }
}
