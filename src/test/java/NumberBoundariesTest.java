/** The boundary cases of promises 13 to 17, sentence by sentence. */
public final class NumberBoundariesTest {
    private static final int BAD_ARG = Due.BAD_ARG;
    private static final int NONE = Due.NONE;
    private static final int[] WRONG = {-500, -2, -1, 0, 501, 502, 503, 507};
    private static final Due due = new Due("NumberBoundariesTest");

    public static void main(String[] args) {
        gives();
        givesOfClass();
        givesOutOfRange();
        givesFirst();
        givesFirstOfClass();
        givesFirstOutOfRange();
        all();
        allOutOfRange();
        least();
        leastNone();
        leastOutOfRange();
        badArgBeforeNone();
        due.end();
    }

    private static void gives() {
        due.sentence("Promise 13", "How many pairs x, y of whole numbers there are for which the reduced form of class k"
            + " gives n");
        // {d, k, n, pairs}: the least and the greatest n.
        int[][] known = {{3, 0, 1, 6}, {3, 0, 500, 0}, {4, 0, 1, 4}, {4, 0, 500, 16}, {23, 0, 1, 2}, {23, 2, 1, 0},
            {311, 0, 1, 2}, {311, 18, 1, 0}, {311, 18, 500, 2}, {311, 3, 500, 2}, {311, 0, 500, 0}, {399, 6, 500, 6},
            {399, 9, 500, 6}, {399, 15, 500, 0}, {400, 0, 1, 2}, {400, 0, 500, 8}, {400, 3, 500, 8}, {20, 0, 500, 2},
            // The greatest x and y of all: 25 and -7 and so on.
            {3, 0, 499, 12}, {3, 0, 489, 12}, {3, 0, 481, 24}, {3, 0, 475, 12}, {3, 0, 469, 24}, {23, 1, 499, 2}};
        for (int[] row : known) {
            due.is("gives(" + row[1] + ", " + row[2] + ") at " + row[0], Due.at(row[0]).gives(row[1], row[2]), row[3]);
        }
    }

    private static void givesOfClass() {
        due.sentence("Promise 13", "A class that is not there answers BAD_ARG.");
        for (int start : Starts.ALL) {
            int past = Starts.classes(start);
            for (int k : new int[] {-1, past, past + 1, 66, Integer.MIN_VALUE, Integer.MAX_VALUE}) {
                due.refused("gives(" + k + ", 1)", start, BAD_ARG, x -> x.gives(k, 1));
                due.refused("gives(" + k + ", 500)", start, BAD_ARG, x -> x.gives(k, 500));
                due.refused("gives(" + k + ", 0)", start, BAD_ARG, x -> x.gives(k, 0));
                due.refused("gives(" + k + ", 501)", start, BAD_ARG, x -> x.gives(k, 501));
            }
        }
    }

    private static void givesOutOfRange() {
        due.sentence("Promise 13", "BAD_ARG, too, if n is not 1 to 500");
        // 0 would be given by x = y = 0, and 501 by two classes of -23.
        for (int[] values : new int[][] {WRONG, Due.FAR_OUT}) {
            for (int n : values) {
                due.badArg("gives(0, " + n + ")", x -> x.gives(0, n));
            }
        }
        due.is("gives(1, 501) at 23", Due.at(23).gives(1, 501), BAD_ARG);
        due.is("gives(2, 501) at 23", Due.at(23).gives(2, 501), BAD_ARG);
        due.is("gives(2, 0) at 23", Due.at(23).gives(2, 0), BAD_ARG);
    }

    private static void givesFirst() {
        due.sentence("Promise 14", "Likewise of x and y that have no common divisor above 1.");
        // 1 and 0 have none, 2 and 0 have.
        int[][] known = {{4, 0, 1, 4}, {4, 0, 4, 0}, {400, 0, 1, 2}, {400, 0, 4, 0}, {400, 0, 100, 2}, {3, 0, 1, 6},
            {3, 0, 4, 0}, {3, 0, 499, 12}, {3, 0, 475, 0}, {3, 0, 481, 24}, {3, 0, 500, 0}, {4, 0, 500, 0},
            {311, 18, 500, 2}, {311, 3, 500, 0}, {399, 6, 500, 2}, {399, 9, 500, 2}, {400, 0, 500, 4},
            {400, 3, 500, 4}, {23, 2, 1, 0}, {23, 0, 1, 2}};
        for (int[] row : known) {
            due.is("givesFirst(" + row[1] + ", " + row[2] + ") at " + row[0],
                Due.at(row[0]).givesFirst(row[1], row[2]), row[3]);
        }
    }

    private static void givesFirstOfClass() {
        due.sentence("Promise 14", "A class that is not there answers BAD_ARG.");
        for (int start : Starts.ALL) {
            int past = Starts.classes(start);
            for (int k : new int[] {-1, past, past + 1, 66, Integer.MIN_VALUE, Integer.MAX_VALUE}) {
                due.refused("givesFirst(" + k + ", 1)", start, BAD_ARG, x -> x.givesFirst(k, 1));
                due.refused("givesFirst(" + k + ", 500)", start, BAD_ARG, x -> x.givesFirst(k, 500));
                due.refused("givesFirst(" + k + ", 0)", start, BAD_ARG, x -> x.givesFirst(k, 0));
                due.refused("givesFirst(" + k + ", 501)", start, BAD_ARG, x -> x.givesFirst(k, 501));
            }
        }
    }

    private static void givesFirstOutOfRange() {
        due.sentence("Promise 14", "Likewise");
        for (int[] values : new int[][] {WRONG, Due.FAR_OUT}) {
            for (int n : values) {
                due.badArg("givesFirst(0, " + n + ")", x -> x.givesFirst(0, n));
            }
        }
        due.is("givesFirst(1, 501) at 23", Due.at(23).givesFirst(1, 501), BAD_ARG);
        due.is("givesFirst(2, 501) at 23", Due.at(23).givesFirst(2, 501), BAD_ARG);
        due.is("givesFirst(2, 0) at 23", Due.at(23).givesFirst(2, 0), BAD_ARG);
    }

    private static void all() {
        due.sentence("Promise 15", "the sum of gives(k, n) over all classes k");
        // {d, n, pairs}: the first class alone has 1, and the last one has its share.
        int[][] known = {{3, 1, 6}, {4, 1, 4}, {23, 1, 2}, {23, 2, 4}, {84, 1, 2}, {84, 2, 2}, {311, 1, 2},
            {399, 1, 2}, {400, 1, 2}, {400, 2, 0}, {3, 500, 0}, {4, 500, 16}, {23, 500, 0}, {84, 500, 8},
            {311, 500, 24}, {399, 500, 24}, {400, 500, 32}, {3, 499, 12}, {399, 499, 4}, {84, 5, 4}};
        for (int[] row : known) {
            due.is("all(" + row[1] + ") at " + row[0], Due.at(row[0]).all(row[1]), row[2]);
        }
        for (int n : new int[] {1, 2, 10, 499, 500}) {
            QuadraticForms x = Due.at(311);
            int sum = 0;
            for (int k = 0; k < 19; k++) {
                sum += x.gives(k, n);
            }
            due.is("all(" + n + ") at 311 and the sum", x.all(n), sum);
        }
    }

    private static void allOutOfRange() {
        due.sentence("Promise 15", "BAD_ARG if n is not 1 to 500");
        for (int[] values : new int[][] {WRONG, Due.FAR_OUT}) {
            for (int n : values) {
                due.badArg("all(" + n + ")", x -> x.all(n));
            }
        }
    }

    private static void least() {
        due.sentence("Promise 16", "The least class that gives n with x and y without a common divisor above 1");
        // {d, n, class}: the first class, the last class, and the least of several.
        int[][] known = {{3, 1, 0}, {4, 1, 0}, {400, 1, 0}, {84, 5, 3}, {15, 2, 1}, {384, 11, 7}, {23, 2, 1},
            {3, 499, 0}, {23, 499, 1}, {311, 499, 15}, {311, 500, 13}, {399, 500, 6}, {400, 500, 0},
            // Class 0 gives these by a common divisor alone.
            {23, 4, 1}, {400, 4, 1}};
        for (int[] row : known) {
            due.is("least(" + row[1] + ") at " + row[0], Due.at(row[0]).least(row[1]), row[2]);
        }
    }

    private static void leastNone() {
        due.sentence("Promise 16", "NONE if there is none");
        due.refused("least(2)", Starts.NEW, NONE, x -> x.least(2));
        due.refused("least(500)", 3, NONE, x -> x.least(500));
        due.refused("least(5)", 23, NONE, x -> x.least(5));
        due.refused("least(500)", 23, NONE, x -> x.least(500));
        due.refused("least(2)", 400, NONE, x -> x.least(2));
        due.refused("least(499)", 400, NONE, x -> x.least(499));
        // There are pairs, but each has a common divisor.
        due.refused("least(4)", 4, NONE, x -> x.least(4));
        due.refused("least(500)", 4, NONE, x -> x.least(500));
        due.refused("least(500)", 84, NONE, x -> x.least(500));
    }

    private static void leastOutOfRange() {
        due.sentence("Promise 16", "BAD_ARG if n is not 1 to 500");
        for (int[] values : new int[][] {WRONG, Due.FAR_OUT}) {
            for (int n : values) {
                due.badArg("least(" + n + ")", x -> x.least(n));
            }
        }
        // Class 1 gives 501.
        due.refused("least(501)", 23, BAD_ARG, x -> x.least(501));
    }

    private static void badArgBeforeNone() {
        due.sentence("Promise 17", "least: BAD_ARG is tested before NONE.");
        // No class gives these without a common divisor, so NONE would be answered.
        for (int n : new int[] {Integer.MIN_VALUE, -500, -1, 0}) {
            due.badArg("least(" + n + ")", x -> x.least(n));
        }
        for (int start : new int[] {Starts.NEW, 3, 4, 84, 311, 399, 400}) {
            due.refused("least(501)", start, BAD_ARG, x -> x.least(501));
        }
        due.badArg("least(" + Integer.MAX_VALUE + ")", x -> x.least(Integer.MAX_VALUE));
    }
}
