/** Objects to begin with, and the number of classes that the document asks of each. */
final class Starts {
    // NEW: no call of discriminant at all. 311 has the most classes; 400 has a's with
    // common divisors, and forms that are left out for theirs.
    static final int NEW = 0;
    static final int[] ALL = {NEW, 3, 4, 23, 84, 311, 399, 400};
    private static final int[] CLASSES = {1, 1, 1, 3, 4, 19, 16, 4};
    private static final int[][] UNTOUCHED = new int[ALL.length][];

    static QuadraticForms make(int start) {
        return start == NEW ? new QuadraticForms() : Due.at(start);
    }

    static int classes(int start) {
        return CLASSES[at(start)];
    }

    /** What an object answers that has had no other call. */
    static int[] untouched(int start) {
        int at = at(start);
        if (UNTOUCHED[at] == null) {
            UNTOUCHED[at] = Snapshot.of(make(start));
        }
        return UNTOUCHED[at];
    }

    static String name(int start) {
        return start == NEW ? " on a new object" : " at " + start;
    }

    private static int at(int start) {
        for (int s = 0; s < ALL.length; s++) {
            if (ALL[s] == start) {
                return s;
            }
        }
        throw new IllegalArgumentException("no start " + start);
    }

    private Starts() {
    }
}
