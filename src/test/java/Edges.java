import java.util.TreeSet;

/** Values beyond the ends of a range. */
final class Edges {
    private static final int[] SHIFTS = {0, 1, 5, 6, 8, 16, 31};

    private Edges() {
    }

    /** Just below and just above, the least and the largest there are, and what falls inside when high bits are lost. */
    static int[] outside(int lowest, int largest) {
        TreeSet<Integer> values = new TreeSet<>();
        values.add(Integer.MIN_VALUE);
        values.add(Integer.MAX_VALUE);
        for (int shift : SHIFTS) {
            values.add(lowest - (1 << shift));
            values.add(lowest + (1 << shift));
            values.add(largest - (1 << shift));
            values.add(largest + (1 << shift));
        }
        return values.stream().mapToInt(Integer::intValue).filter(v -> v < lowest || v > largest).toArray();
    }
}
