import java.util.Random;

/** Long runs of chance calls, always the same ones, in which the program must answer as the plain model does. */
public final class PlainModelTest {
    private static final int RUNS = 3000;
    private static final int CALLS = 512;
    private static final int WRONG_MOST = 20;
    private static final int[] ATOMS = {4, 5, 6, 6, 7, 8, 8, 8, 9, 9, 10, 10, 11, 12, 12, 12};
    private static final int[] FEWEST = {0, 0, 0, 0, 0, 0, 2, 2, 1, 1, 1, 0, 0};
    private static final int[] MOST = {0, 0, 0, 0, 0, 0, 2, 2, 5, 1, 7, 6, 0};
    private static final int[] FAULTS = new int[4];

    private static int largeOrdered = 0;
    private static int wrong = 0;

    private final int run;
    private final Random random;
    private final GoalOrder program = new GoalOrder();
    private final PlainModel model = new PlainModel();
    private final int variables;
    private final int composites;
    private final int[] arguments = new int[60];
    private int predicates = 0;
    private int goals = 1;
    private int calls = 0;

    private PlainModelTest(int run) {
        this.run = run;
        random = new Random(run);
        variables = new int[] {3, 6, 12, 60}[random.nextInt(4)];
        composites = random.nextInt(60);
    }

    public static void main(String[] args) {
        for (int run = 0; run < RUNS && wrong < WRONG_MOST; run++) {
            new PlainModelTest(run).go();
        }
        for (int fault = 0; fault < 4; fault++) {
            System.out.println("order() answered " + fault + ": " + FAULTS[fault] + " times");
            if (FAULTS[fault] == 0) {
                wrong++;
            }
        }
        System.out.println("large trees among those that can be done: " + largeOrdered);
        if (largeOrdered == 0) {
            wrong++;
        }
        System.out.println(wrong == 0 ? "all answers are as due" : wrong + " answers are not as due");
        if (wrong != 0) {
            System.exit(1);
        }
    }

    private void go() {
        int predicatesFirst = random.nextInt(6);
        for (int i = 0; i < predicatesFirst; i++) {
            definePredicate();
        }
        boolean large = random.nextInt(4) == 0;
        while (calls < CALLS - 60) {
            int grow = large ? 40 + random.nextInt(100) : 1 + random.nextInt(12);
            for (int i = 0; i < grow && calls < CALLS - 60; i++) {
                grow();
            }
            int rounds = 1 + random.nextInt(large ? 40 : 10);
            for (int i = 0; i < rounds && calls < CALLS - 20; i++) {
                order();
                if (random.nextInt(4) == 0) {
                    change();
                } else {
                    mend(model.stuck());
                }
            }
            if (random.nextInt(large ? 12 : 4) == 0) {
                calls++;
                program.clear();
                model.clear();
                goals = 1;
            }
        }
    }

    private void due(String call, int got, int due) {
        calls++;
        if (got != due) {
            wrong++;
            System.out.println("run " + run + ", call " + calls + ": " + call + " answered " + got + ", due is " + due);
        }
    }

    private void due(String call, boolean got, boolean due) {
        due(call, got ? 1 : 0, due ? 1 : 0);
    }

    private int variable() {
        return random.nextInt(100) == 0 ? random.nextInt(70) - 5 : random.nextInt(variables);
    }

    private int goal() {
        return random.nextInt(50) == 0 ? random.nextInt(300) - 5 : random.nextInt(goals);
    }

    private void definePredicate() {
        int many = random.nextInt(15) == 0 ? random.nextInt(20) - 7 : random.nextInt(7);
        int due = model.predicate(many);
        due("predicate(" + many + ")", program.predicate(many), due);
        if (due >= 0) {
            arguments[due] = many;
            predicates = due + 1;
            for (int i = random.nextInt(5); i >= 0; i--) {
                defineMode(due);
            }
        }
    }

    private void defineMode(int predicate) {
        int outs = random.nextInt() & (random.nextBoolean() ? random.nextInt() : -1);
        due("mode(" + predicate + ", " + outs + ")", program.mode(predicate, outs), model.mode(predicate, outs));
    }

    private void grow() {
        growUnder(parent());
    }

    private void growUnder(int parent) {
        boolean composite = random.nextInt(100) < composites;
        int sort = composite ? random.nextInt(4) : ATOMS[random.nextInt(ATOMS.length)];
        if (sort == 12 && predicates == 0 && random.nextInt(8) > 0) {
            sort = 9;
        }
        int predicate = predicates == 0 || random.nextInt(60) == 0 ? random.nextInt(9) - 2 : random.nextInt(predicates);
        int many = FEWEST[sort] + random.nextInt(MOST[sort] - FEWEST[sort] + 1);
        if (many > 3 && random.nextInt(3) > 0) {
            many = 2;
        }
        if (sort == 12 && predicate >= 0 && predicate < predicates) {
            many = arguments[predicate];
        }
        if (random.nextInt(80) == 0) {
            many = random.nextInt(9);
        }
        for (int k = 0; k < many; k++) {
            int x = variable();
            due("put(" + x + ")", program.put(x), model.put(x));
        }
        int due = model.add(parent, sort, predicate);
        due("add(" + parent + ", " + sort + ", " + predicate + ")", program.add(parent, sort, predicate), due);
        if (due >= 0) {
            goals = due + 1;
        }
    }

    /** Mostly one that takes a part, and often one of the latest. */
    private int parent() {
        if (random.nextInt(30) == 0) {
            return goal();
        }
        for (int i = 0; i < 10; i++) {
            int parent = random.nextInt(3) == 0 ? random.nextInt(goals) : Math.max(0, goals - 1 - random.nextInt(6));
            int sort = model.node(parent, 0);
            int parts = model.node(parent, 1);
            if (sort < 2 || sort == 2 && parts == 0 || sort == 3 && parts < 3) {
                return parent;
            }
        }
        return 0;
    }

    private void change() {
        int x = variable();
        boolean on = random.nextInt(4) > 0;
        switch (random.nextInt(12)) {
            case 0:
                due("wanted(" + x + ", " + on + ")", program.wanted(x, on), model.wanted(x, on));
                break;
            case 1:
                definePredicate();
                break;
            case 2:
                defineMode(random.nextInt(Math.max(1, predicates)));
                break;
            case 3:
                grow();
                break;
            default:
                due("given(" + x + ", " + on + ")", program.given(x, on), model.given(x, on));
                break;
        }
        if (random.nextInt(4) == 0) {
            ask();
        }
    }

    /** Chance alone seldom makes a large tree that can be done: what is stuck gets what it may be missing. */
    private void mend(int stuck) {
        if (stuck < 0 || stuck >= goals) {
            change();
            return;
        }
        int sort = model.node(stuck, 0);
        int parts = model.node(stuck, 1);
        if (sort == 2 && parts == 0 || sort == 3 && parts < 3) {
            growUnder(stuck);
            return;
        }
        int many = model.node(stuck, 2);
        int x = many > 0 ? model.node(stuck, 3 + random.nextInt(many)) : variable();
        due("given(" + x + ", true)", program.given(x, true), model.given(x, true));
    }

    private void order() {
        int due = model.order();
        FAULTS[due]++;
        if (due == 0 && goals > 25 && composites > 15) {
            largeOrdered++;
        }
        due("order()", program.order(), due);
        due("stuck()", program.stuck(), model.stuck());
        int questions = due == 0 ? 12 : 2;
        for (int i = 0; i < questions && calls < CALLS; i++) {
            ask();
        }
    }

    private void ask() {
        int node = goal();
        int k = random.nextInt(8) - 1;
        int x = variable();
        switch (random.nextInt(7)) {
            case 0:
                due("stuck()", program.stuck(), model.stuck());
                break;
            case 1:
                int whole = random.nextBoolean() ? 0 : node;
                int place = random.nextInt(Math.max(1, model.node(whole, 1)) + 1);
                due("part(" + whole + ", " + place + ")", program.part(whole, place), model.part(whole, place));
                break;
            case 2:
                due("node(" + node + ", " + k + ")", program.node(node, k), model.node(node, k));
                break;
            case 3:
                due("node(" + node + ", -1)", program.node(node, -1), model.node(node, -1));
                break;
            case 4:
                due("compared(" + node + ", " + k + ")", program.compared(node, k), model.compared(node, k));
                break;
            case 5:
                due("ground(" + node + ", " + x + ")", program.ground(node, x), model.ground(node, x));
                break;
            default:
                due("outer(" + node + ", " + x + ")", program.outer(node, x), model.outer(node, x));
                break;
        }
    }
}
