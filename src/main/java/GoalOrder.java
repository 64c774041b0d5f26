/**
 * Puts the goals of a logic language in an order in which they can be done.
 *
 * <p>A set of variables is a long: bit x stands for variable x.
 */
public final class GoalOrder {
    public static final int NONE = -1;

    private static final int VARIABLES = 60;
    private static final int ROW_MOST = 7;
    private static final int PREDICATES_MOST = 60;
    private static final int ARGUMENTS_MOST = 6;
    private static final int MODES_MOST = 4;
    private static final int NODES_MOST = 250;
    private static final int DEPTH_MOST = 20;
    private static final int TRIES_MOST = 20000;

    private static final int ROW = 0;
    private static final int CHOICE = 1;
    private static final int NOT = 2;
    private static final int TEST = 3;
    private static final int SAME = 6;
    private static final int DIFFER = 7;
    private static final int FORM = 8;
    private static final int NUMBER = 9;
    private static final int SUM = 10;
    private static final int COMPARE = 11;
    private static final int CALL = 12;

    /** How many variables a sort takes, by its number; a CALL takes what its predicate says instead. */
    private static final int[] FEWEST = {0, 0, 0, 0, 0, 0, 2, 2, 1, 1, 1, 0, 0};
    private static final int[] MOST = {0, 0, 0, 0, 0, 0, 2, 2, 5, 1, 7, 6, 0};

    private static final int DONE = 0;
    private static final int FAULT_STUCK = 1;
    private static final int FAULT_WANTED = 2;
    private static final int FAULT_TRIES = 3;

    private final Predicates predicates;
    private final Tree tree;
    private final Trial trial;
    private final int[] row;
    private int rowMany;
    private long givenSet;
    private long wantedSet;
    private boolean ordered;
    private int stuckAt;

    public GoalOrder() {
        predicates = new Predicates();
        tree = new Tree();
        trial = new Trial(predicates);
        row = new int[ROW_MOST];
        rowMany = 0;
        givenSet = 0L;
        wantedSet = 0L;
        ordered = false;
        stuckAt = NONE;
    }

    public int predicate(int many) {
        return predicates.define(many);
    }

    public int mode(int predicate, int outs) {
        int number = predicates.defineMode(predicate, outs);
        if (number != NONE) {
            forgetOrdering();
        }
        return number;
    }

    public void clear() {
        tree.reset();
        rowMany = 0;
        givenSet = 0L;
        wantedSet = 0L;
        forgetOrdering();
    }

    public boolean put(int x) {
        if (rowMany >= ROW_MOST || !isVariable(x)) {
            return false;
        }
        row[rowMany] = x;
        rowMany++;
        return true;
    }

    public int add(int parent, int sort, int predicate) {
        int many = rowMany;
        rowMany = 0;
        Node above = tree.find(parent);
        if (above == null || tree.isFull() || !above.takesPart() || !fits(sort, predicate, many)) {
            return NONE;
        }
        forgetOrdering();
        return tree.grow(above, sort, predicate, row, many);
    }

    public boolean given(int x, boolean on) {
        if (!isVariable(x) || holds(givenSet, x) == on) {
            return false;
        }
        givenSet ^= 1L << x;
        forgetOrdering();
        return true;
    }

    public boolean wanted(int x, boolean on) {
        if (!isVariable(x) || holds(wantedSet, x) == on) {
            return false;
        }
        wantedSet ^= 1L << x;
        forgetOrdering();
        return true;
    }

    public int order() {
        forgetOrdering();
        Node root = tree.root;
        boolean done = trial.run(root, givenSet, wantedSet);
        if (trial.overrun) {
            return FAULT_TRIES;
        }
        if (!done) {
            stuckAt = root.stuckNumber;
            return FAULT_STUCK;
        }
        long missing = wantedSet & ~root.behind;
        if (missing != 0L) {
            stuckAt = leastOf(missing);
            return FAULT_WANTED;
        }
        ordered = true;
        return DONE;
    }

    public int stuck() {
        return stuckAt;
    }

    public int part(int node, int k) {
        Node whole = tree.find(node);
        if (!ordered || whole == null || k < 0 || k >= whole.parts) {
            return NONE;
        }
        Node found = whole.sort == ROW ? whole.kthDone(k) : whole.kthPart(k);
        return found == null ? NONE : found.number;
    }

    public int node(int node, int what) {
        Node asked = tree.find(node);
        if (asked == null) {
            return NONE;
        }
        switch (what) {
            case -1:
                return ordered && asked.isAtom() ? asked.way : NONE;
            case 0:
                return asked.sort;
            case 1:
                return asked.parts;
            case 2:
                return asked.many;
            default:
                return what >= 3 && what - 3 < asked.many ? asked.variables[what - 3] : NONE;
        }
    }

    public boolean compared(int node, int k) {
        Node atom = tree.find(node);
        if (!ordered || atom == null || k < 0 || k >= atom.many) {
            return false;
        }
        return atom.meets(k, madeAt(atom));
    }

    public boolean ground(int node, int x) {
        Node asked = tree.find(node);
        return ordered && asked != null && isVariable(x) && holds(asked.ahead, x);
    }

    public boolean outer(int node, int x) {
        Node asked = tree.find(node);
        return asked != null && isVariable(x) && holds(asked.outside | wantedSet, x);
    }

    /** A STUCK answer goes too: it is about an ordering of the tree as it stands. */
    private void forgetOrdering() {
        ordered = false;
        stuckAt = NONE;
    }

    private boolean fits(int sort, int predicate, int many) {
        if (sort < ROW || sort > CALL) {
            return false;
        }
        if (sort == CALL) {
            return predicates.has(predicate) && many == predicates.argumentsOf(predicate);
        }
        return many >= FEWEST[sort] && many <= MOST[sort];
    }

    /** The places of an atom's row, as bits, at which its way hands out values: only these can be COMPARED. */
    private int madeAt(Node atom) {
        if (atom.sort == CALL) {
            return predicates.outsOf(atom.predicate, atom.way);
        }
        return atom.sort == FORM && atom.way == 1 ? ~1 : 0;
    }

    private static boolean isVariable(int x) {
        return x >= 0 && x < VARIABLES;
    }

    private static boolean holds(long set, int x) {
        return (set >>> x & 1L) != 0L;
    }

    private static int leastOf(long set) {
        for (int x = 0; x < VARIABLES; x++) {
            if (holds(set, x)) {
                return x;
            }
        }
        return NONE;
    }

    private static boolean hasPlace(int places, int k) {
        return (places >>> k & 1) != 0;
    }

    /** The predicates with their modes; a mode is the bits of its OUT arguments. */
    private static final class Predicates {
        private final int[] arguments;
        private final int[] modes;
        private final int[] outs;
        private int count;

        Predicates() {
            arguments = new int[PREDICATES_MOST];
            modes = new int[PREDICATES_MOST];
            outs = new int[PREDICATES_MOST * MODES_MOST];
            count = 0;
        }

        int define(int many) {
            if (count >= PREDICATES_MOST || many < 0 || many > ARGUMENTS_MOST) {
                return NONE;
            }
            arguments[count] = many;
            count++;
            return count - 1;
        }

        int defineMode(int predicate, int outBits) {
            if (!has(predicate) || modes[predicate] >= MODES_MOST) {
                return NONE;
            }
            int number = modes[predicate];
            outs[predicate * MODES_MOST + number] = outBits;
            modes[predicate] = number + 1;
            return number;
        }

        boolean has(int predicate) {
            return predicate >= 0 && predicate < count;
        }

        int argumentsOf(int predicate) {
            return has(predicate) ? arguments[predicate] : 0;
        }

        int modesOf(int predicate) {
            return has(predicate) ? modes[predicate] : 0;
        }

        int outsOf(int predicate, int mode) {
            return mode >= 0 && mode < modesOf(predicate) ? outs[predicate * MODES_MOST + mode] : 0;
        }
    }

    /** A goal of the tree. What a try leaves in it is that of the latest one. */
    private static final class Node {
        final int number;
        final int[] variables;
        int many;
        int sort;
        int predicate;
        int depth;
        int parts;
        Node parent;
        Node firstPart;
        Node lastPart;
        Node nextPart;
        long within;
        long outside;

        long ahead;
        long behind;
        int way;
        int stuckNumber;
        boolean done;
        Node firstDone;
        Node nextDone;

        Node(int number) {
            this.number = number;
            variables = new int[ROW_MOST];
        }

        /** A node is used again after the tree was cleared, so everything an answer reads is set anew. */
        void become(int newSort, int newPredicate) {
            sort = newSort;
            predicate = newPredicate;
            many = 0;
            depth = 0;
            parts = 0;
            parent = null;
            firstPart = null;
            lastPart = null;
            nextPart = null;
            within = 0L;
            outside = 0L;
        }

        void takeVariables(int[] row, int count) {
            for (int k = 0; k < count && k < ROW_MOST; k++) {
                variables[k] = row[k];
                within |= 1L << row[k];
                many++;
            }
        }

        void append(Node child) {
            child.parent = this;
            child.depth = depth + 1;
            if (lastPart == null) {
                firstPart = child;
            } else {
                lastPart.nextPart = child;
            }
            lastPart = child;
            parts++;
        }

        boolean isAtom() {
            return sort > TEST;
        }

        boolean takesPart() {
            if (isAtom() || depth >= DEPTH_MOST) {
                return false;
            }
            return !(sort == NOT && parts >= 1) && !(sort == TEST && parts >= 3);
        }

        Node kthPart(int k) {
            Node found = firstPart;
            for (int i = 0; i < k && found != null; i++) {
                found = found.nextPart;
            }
            return found;
        }

        Node kthDone(int k) {
            Node found = firstDone;
            for (int i = 0; i < k && found != null; i++) {
                found = found.nextDone;
            }
            return found;
        }

        /** The variables at place from and behind it. */
        long variablesFrom(int from) {
            long set = 0L;
            for (int k = from; k < many; k++) {
                set |= 1L << variables[k];
            }
            return set;
        }

        /** The variable at a place, as a set; empty where there is none. */
        long variableAt(int k) {
            return k >= 0 && k < many ? 1L << variables[k] : 0L;
        }

        /**
         * Whether the value handed out at place k meets one that is there already. Each place ahead of it counts:
         * a variable at one that hands out nothing is ground ahead anyway.
         */
        boolean meets(int k, int made) {
            if (!hasPlace(made, k)) {
                return false;
            }
            long there = ahead;
            for (int j = 0; j < k; j++) {
                there |= variableAt(j);
            }
            return (variableAt(k) & there) != 0L;
        }
    }

    /** The nodes by number. */
    private static final class Tree {
        private final Node root;
        private final Node[] nodes;
        private int count;

        Tree() {
            root = new Node(0);
            nodes = new Node[NODES_MOST];
            nodes[0] = root;
            reset();
        }

        void reset() {
            root.become(ROW, NONE);
            count = 1;
        }

        boolean isFull() {
            return count >= NODES_MOST;
        }

        Node find(int number) {
            return number >= 0 && number < count ? nodes[number] : null;
        }

        /** The caller has seen that the tree is not full and that the parent takes a part. */
        int grow(Node parent, int sort, int predicate, int[] row, int many) {
            if (isFull()) {
                return NONE;
            }
            Node node = nodes[count];
            if (node == null) {
                node = new Node(count);
                nodes[count] = node;
            }
            node.become(sort, predicate);
            node.outside = root.within;
            node.takeVariables(row, many);
            parent.append(node);
            count++;
            spreadVariables(node);
            return node.number;
        }

        /** Parents have lower numbers than their parts, so going down the ancestors come in their order. */
        private void spreadVariables(Node atom) {
            Node above = atom.parent;
            for (int i = atom.number - 1; i >= 0; i--) {
                Node other = nodes[i];
                if (other == null) {
                    continue;
                }
                if (other == above) {
                    other.within |= atom.within;
                    above = other.parent;
                } else {
                    other.outside |= atom.within;
                }
            }
        }
    }

    /** One ordering: nodes are tried, and each keeps what its latest try found. */
    private static final class Trial {
        private final Predicates predicates;
        private long wantedNow;
        private int tries;
        private boolean overrun;

        Trial(Predicates predicates) {
            this.predicates = predicates;
        }

        boolean run(Node root, long givenNow, long wanted) {
            wantedNow = wanted;
            tries = 0;
            overrun = false;
            return canDo(root, givenNow);
        }

        /** Goes no deeper than DEPTH_MOST: the tree takes no part below that. */
        private boolean canDo(Node node, long ahead) {
            if (tries >= TRIES_MOST) {
                overrun = true;
                return false;
            }
            tries++;
            node.ahead = ahead;
            node.behind = ahead;
            node.stuckNumber = node.number;
            switch (node.sort) {
                case ROW:
                    return canDoRow(node);
                case CHOICE:
                    return canDoChoice(node);
                case NOT:
                    return canDoNot(node);
                case TEST:
                    return canDoTest(node);
                default:
                    return canDoAtom(node);
            }
        }

        private boolean canDoRow(Node whole) {
            for (Node part = whole.firstPart; part != null; part = part.nextPart) {
                part.done = false;
                part.nextDone = null;
            }
            whole.firstDone = null;
            Node last = null;
            for (int k = 0; k < whole.parts; k++) {
                Node next = doLeftmost(whole);
                if (next == null) {
                    whole.stuckNumber = stuckOfLeftmost(whole);
                    return false;
                }
                if (last == null) {
                    whole.firstDone = next;
                } else {
                    last.nextDone = next;
                }
                last = next;
            }
            return true;
        }

        /** Does the leftmost part left that can be done; null when none can. */
        private Node doLeftmost(Node whole) {
            for (Node part = whole.firstPart; part != null; part = part.nextPart) {
                if (!part.done && canDo(part, whole.behind)) {
                    part.done = true;
                    whole.behind = part.behind;
                    return part;
                }
            }
            return null;
        }

        private static int stuckOfLeftmost(Node whole) {
            for (Node part = whole.firstPart; part != null; part = part.nextPart) {
                if (!part.done) {
                    return part.stuckNumber;
                }
            }
            return whole.number;
        }

        private boolean canDoChoice(Node choice) {
            long each = -1L;
            long some = 0L;
            for (Node part = choice.firstPart; part != null; part = part.nextPart) {
                if (!canDoPart(choice, part, choice.ahead)) {
                    return false;
                }
                each &= part.behind;
                some |= part.behind;
            }
            return canJoin(choice, each, some);
        }

        private boolean canDoNot(Node not) {
            Node part = not.firstPart;
            if (part == null || !canDoPart(not, part, not.ahead)) {
                return false;
            }
            return (madeBy(part) & outerOf(not)) == 0L;
        }

        private boolean canDoTest(Node test) {
            Node asked = test.kthPart(0);
            Node ifSo = test.kthPart(1);
            Node ifNot = test.kthPart(2);
            if (asked == null || ifSo == null || ifNot == null) {
                return false;
            }
            if (!canDoPart(test, asked, test.ahead)) {
                return false;
            }
            if ((madeBy(asked) & (outerOf(test) | ifNot.within)) != 0L) {
                return false;
            }
            if (!canDoPart(test, ifSo, asked.behind) || !canDoPart(test, ifNot, test.ahead)) {
                return false;
            }
            return canJoin(test, ifSo.behind & ifNot.behind, ifSo.behind | ifNot.behind);
        }

        /** A part that can't be done says where its whole is stuck. */
        private boolean canDoPart(Node whole, Node part, long ahead) {
            if (canDo(part, ahead)) {
                return true;
            }
            whole.stuckNumber = part.stuckNumber;
            return false;
        }

        /** Branches must agree on the OUTER variables that they make ground; the others stay inside them. */
        private boolean canJoin(Node whole, long each, long some) {
            long open = outerOf(whole) & ~whole.ahead;
            if ((open & some & ~each) != 0L) {
                return false;
            }
            whole.behind = whole.ahead | (open & some);
            return true;
        }

        private long outerOf(Node node) {
            return node.outside | wantedNow;
        }

        private static long madeBy(Node part) {
            return part.behind & ~part.ahead;
        }

        private boolean canDoAtom(Node atom) {
            switch (atom.sort) {
                case SAME:
                    return canDoSame(atom);
                case DIFFER:
                case COMPARE:
                    return isGround(atom, atom.within) && settle(atom, 1, 0L);
                case FORM:
                    return canDoForm(atom);
                case NUMBER:
                case SUM:
                    return canDoSum(atom);
                case CALL:
                    return canDoCall(atom);
                default:
                    return settle(atom, 0, 0L);
            }
        }

        private static boolean canDoSame(Node atom) {
            long first = atom.variableAt(0);
            long second = atom.variableAt(1);
            if (isGround(atom, first | second)) {
                return settle(atom, 1, 0L);
            }
            if (isGround(atom, first)) {
                return settle(atom, 2, second);
            }
            return isGround(atom, second) && settle(atom, 3, first);
        }

        private static boolean canDoForm(Node atom) {
            long x = atom.variableAt(0);
            long others = atom.variablesFrom(1);
            if (isGround(atom, x)) {
                return settle(atom, 1, others);
            }
            return isGround(atom, others) && settle(atom, 2, x);
        }

        /** A NUMBER is a SUM without others. */
        private static boolean canDoSum(Node atom) {
            long x = atom.variableAt(0);
            if (!isGround(atom, atom.variablesFrom(1))) {
                return false;
            }
            return settle(atom, isGround(atom, x) ? 1 : 2, x);
        }

        private boolean canDoCall(Node atom) {
            int modes = predicates.modesOf(atom.predicate);
            for (int mode = 0; mode < modes; mode++) {
                if (isGround(atom, insOf(atom, predicates.outsOf(atom.predicate, mode)))) {
                    return settle(atom, mode, atom.within);
                }
            }
            return false;
        }

        private static long insOf(Node atom, int outs) {
            long ins = 0L;
            for (int k = 0; k < atom.many; k++) {
                if (!hasPlace(outs, k)) {
                    ins |= atom.variableAt(k);
                }
            }
            return ins;
        }

        private static boolean isGround(Node atom, long set) {
            return (set & ~atom.ahead) == 0L;
        }

        /** Always true, so that a way can be told in one step with its being found. */
        private static boolean settle(Node atom, int way, long made) {
            atom.way = way;
            atom.behind = atom.ahead | made;
            return true;
        }
    }
}
