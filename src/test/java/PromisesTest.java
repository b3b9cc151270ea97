/** Each promise by hand: ordinary inputs, the edges that the document names, wrong inputs. */
public final class PromisesTest {
    private static final int BAD_ARG = Due.BAD_ARG;
    private static final int NONE = Due.NONE;
    private static final Due due = new Due("PromisesTest");

    public static void main(String[] args) {
        newObject();
        discriminant();
        classes();
        reduced();
        classOf();
        neutral();
        product();
        inverse();
        power();
        order();
        roots();
        squares();
        gives();
        givesFirst();
        all();
        least();
        orderAndLimits();
        refusedChangesNothing();
        noSuchClass();
        farOut();
        due.end();
    }

    // Promise 1
    private static void newObject() {
        QuadraticForms x = new QuadraticForms();
        due.is("1: classes()", x.classes(), 1);
        due.is("1: reduced(0, 0)", x.reduced(0, 0), 1);
        due.is("1: reduced(0, 1)", x.reduced(0, 1), 1);
        due.is("1: reduced(0, 2)", x.reduced(0, 2), 1);
        due.is("1: product(0, 0)", x.product(0, 0), 0);
        due.is("1: gives(0, 1)", x.gives(0, 1), 6);
        QuadraticForms y = new QuadraticForms();
        y.discriminant(47);
        due.is("1: classes() beside another object", x.classes(), 1);
        due.is("1: classes() of the other", y.classes(), 5);
    }

    // Promise 2
    private static void discriminant() {
        int[][] known = {{3, 1}, {4, 1}, {7, 1}, {8, 1}, {11, 1}, {12, 1}, {15, 2}, {16, 1}, {19, 1}, {20, 2},
            {23, 3}, {24, 2}, {27, 1}, {28, 1}, {31, 3}, {32, 2}, {36, 2}, {39, 4}, {43, 1}, {47, 5}, {63, 4},
            {67, 1}, {71, 7}, {75, 2}, {84, 4}, {95, 8}, {100, 2}, {119, 10}, {163, 1}, {224, 8}, {311, 19},
            {399, 16}, {400, 4}};
        QuadraticForms x = new QuadraticForms();
        for (int[] row : known) {
            due.is("2: discriminant(" + row[0] + ")", x.discriminant(row[0]), row[1]);
            due.is("2: classes() at " + row[0], x.classes(), row[1]);
        }
        int[] wrong = {-400, -4, -3, -1, 0, 1, 2, 5, 6, 9, 10, 397, 398, 401, 402, 403, 404, 407, 408};
        for (int d : wrong) {
            due.is("2: discriminant(" + d + ")", x.discriminant(d), BAD_ARG);
            due.is("2: classes() after refused " + d, x.classes(), 4);
        }
        due.is("2: reduced(0, 2) after refusals", x.reduced(0, 2), 100);
        due.is("2: discriminant(399)", x.discriminant(399), 16);
        due.is("2: discriminant(3)", x.discriminant(3), 1);
        due.is("2: reduced(1, 0) of a class that went", x.reduced(1, 0), BAD_ARG);
    }

    // Promise 3
    private static void classes() {
        due.is("3: classes()", Due.at(23).classes(), 3);
        due.is("3: classes()", Due.at(36).classes(), 2);
        due.is("3: classes()", Due.at(311).classes(), 19);
    }

    // Promise 4
    private static void reduced() {
        forms(23, new int[][] {{1, 1, 6}, {2, -1, 3}, {2, 1, 3}});
        forms(4, new int[][] {{1, 0, 1}});
        // (3, 3, 3) and (2, 2, 2) are left out for their common divisors.
        forms(27, new int[][] {{1, 1, 7}});
        forms(12, new int[][] {{1, 0, 3}});
        // a = b and a = c keep only the b above 0.
        forms(15, new int[][] {{1, 1, 4}, {2, 1, 2}});
        forms(20, new int[][] {{1, 0, 5}, {2, 2, 3}});
        forms(47, new int[][] {{1, 1, 12}, {2, -1, 6}, {2, 1, 6}, {3, -1, 4}, {3, 1, 4}});
        forms(400, new int[][] {{1, 0, 100}, {4, 0, 25}, {8, -4, 13}, {8, 4, 13}});
        QuadraticForms x = Due.at(23);
        for (int part : new int[] {-2, -1, 3, 4}) {
            due.is("4: reduced(0, " + part + ")", x.reduced(0, part), BAD_ARG);
            due.is("4: reduced(3, " + part + ")", x.reduced(3, part), BAD_ARG);
        }
    }

    private static void forms(int d, int[][] want) {
        QuadraticForms x = Due.at(d);
        for (int k = 0; k < want.length; k++) {
            for (int part = 0; part < 3; part++) {
                due.is("4: reduced(" + k + ", " + part + ") at " + d, x.reduced(k, part), want[k][part]);
            }
        }
        due.is("4: reduced past the end at " + d, x.reduced(want.length, 0), BAD_ARG);
        due.is("4: reduced(-1, 0) at " + d, x.reduced(-1, 0), BAD_ARG);
    }

    // Promise 5
    private static void classOf() {
        QuadraticForms x = Due.at(23);
        due.is("5: classOf(1, 1)", x.classOf(1, 1), 0);
        due.is("5: classOf(1, -1)", x.classOf(1, -1), 0);
        due.is("5: classOf(1, 999)", x.classOf(1, 999), 0);
        due.is("5: classOf(1, -999)", x.classOf(1, -999), 0);
        due.is("5: classOf(1, 1000)", x.classOf(1, 1000), NONE);
        due.is("5: classOf(2, -1)", x.classOf(2, -1), 1);
        due.is("5: classOf(2, 3)", x.classOf(2, 3), 1);
        due.is("5: classOf(2, 1)", x.classOf(2, 1), 2);
        due.is("5: classOf(3, 1)", x.classOf(3, 1), 1);
        due.is("5: classOf(3, -1)", x.classOf(3, -1), 2);
        due.is("5: classOf(3, 0)", x.classOf(3, 0), NONE);
        due.is("5: classOf(5, 1)", x.classOf(5, 1), NONE);
        due.is("5: classOf(1000, 1000)", x.classOf(1000, 1000), NONE);
        due.is("5: classOf(1000, -1000)", x.classOf(1000, -1000), NONE);
        int[][] wrong = {{0, 1}, {-1, 1}, {1001, 1}, {1, 1001}, {1, -1001}, {0, 1001}, {1001, -1001}, {5, 1001}};
        for (int[] row : wrong) {
            due.is("5: classOf(" + row[0] + ", " + row[1] + ")", x.classOf(row[0], row[1]), BAD_ARG);
        }
        // (2, 2, 2) and (3, 3, 3) have a common divisor.
        due.is("5: classOf(2, 2) at 12", Due.at(12).classOf(2, 2), NONE);
        due.is("5: classOf(3, 3) at 27", Due.at(27).classOf(3, 3), NONE);
        due.is("5: classOf(6, 6) at 108", Due.at(108).classOf(6, 6), NONE);
        // a = c: b and -b are of one class.
        due.is("5: classOf(2, -1) at 15", Due.at(15).classOf(2, -1), 1);
        due.is("5: classOf(2, -2) at 20", Due.at(20).classOf(2, -2), 1);
        // The greatest a and b that are not refused.
        due.is("5: classOf(1000, 60) at 400", Due.at(400).classOf(1000, 60), 0);
        due.is("5: classOf(1000, -60) at 400", Due.at(400).classOf(1000, -60), 0);
        due.is("5: classOf(1, 1000) at 4", Due.at(4).classOf(1, 1000), 0);
        due.is("5: classOf(1, -1000) at 4", Due.at(4).classOf(1, -1000), 0);
        due.is("5: classOf(1000, 1000) at 400", Due.at(400).classOf(1000, 1000), NONE);
        due.is("5: classOf(1001, 1000) at 400", Due.at(400).classOf(1001, 1000), BAD_ARG);
    }

    // Promise 6
    private static void neutral() {
        QuadraticForms x = new QuadraticForms();
        for (int d = 3; d <= 400; d++) {
            if (d % 4 == 0 || d % 4 == 3) {
                x.discriminant(d);
                due.is("6: neutral() at " + d, x.neutral(), 0);
            }
        }
    }

    // Promise 7
    private static void product() {
        table(23, new int[][] {{0, 1, 2}, {1, 2, 0}, {2, 0, 1}});
        table(15, new int[][] {{0, 1}, {1, 0}});
        table(84, new int[][] {{0, 1, 2, 3}, {1, 0, 3, 2}, {2, 3, 0, 1}, {3, 2, 1, 0}});
        table(47, new int[][] {{0, 1, 2, 3, 4}, {1, 4, 0, 2, 3}, {2, 0, 3, 4, 1}, {3, 2, 4, 1, 0}, {4, 3, 1, 0, 2}});
        table(400, new int[][] {{0, 1, 2, 3}, {1, 0, 3, 2}, {2, 3, 1, 0}, {3, 2, 0, 1}});
    }

    private static void table(int d, int[][] want) {
        QuadraticForms x = Due.at(d);
        for (int i = 0; i < want.length; i++) {
            for (int j = 0; j < want.length; j++) {
                due.is("7: product(" + i + ", " + j + ") at " + d, x.product(i, j), want[i][j]);
            }
            due.is("7: product(" + i + ", past) at " + d, x.product(i, want.length), BAD_ARG);
            due.is("7: product(past, " + i + ") at " + d, x.product(want.length, i), BAD_ARG);
            due.is("7: product(" + i + ", -1) at " + d, x.product(i, -1), BAD_ARG);
            due.is("7: product(-1, " + i + ") at " + d, x.product(-1, i), BAD_ARG);
        }
    }

    // Promise 8
    private static void inverse() {
        answers("8: inverse", 23, new int[] {0, 2, 1});
        answers("8: inverse", 84, new int[] {0, 1, 2, 3});
        answers("8: inverse", 47, new int[] {0, 2, 1, 4, 3});
        answers("8: inverse", 400, new int[] {0, 1, 3, 2});
    }

    private static void answers(String what, int d, int[] want) {
        QuadraticForms x = Due.at(d);
        boolean inverse = what.startsWith("8");
        for (int i = -1; i <= want.length; i++) {
            int wanted = i < 0 || i == want.length ? BAD_ARG : want[i];
            due.is(what + "(" + i + ") at " + d, inverse ? x.inverse(i) : x.order(i), wanted);
        }
    }

    // Promise 9
    private static void power() {
        QuadraticForms x = Due.at(47);
        int[] powersOf1 = {0, 1, 4, 3, 2};
        for (int e : new int[] {-1000, -999, -7, -5, -2, -1, 0, 1, 2, 3, 4, 5, 6, 998, 999, 1000}) {
            due.is("9: power(1, " + e + ")", x.power(1, e), powersOf1[Math.floorMod(e, 5)]);
            due.is("9: power(0, " + e + ")", x.power(0, e), 0);
            due.is("9: power(5, " + e + ")", x.power(5, e), BAD_ARG);
            due.is("9: power(-1, " + e + ")", x.power(-1, e), BAD_ARG);
        }
        for (int e : new int[] {-1002, -1001, 1001, 1002}) {
            due.is("9: power(1, " + e + ")", x.power(1, e), BAD_ARG);
            due.is("9: power(5, " + e + ")", x.power(5, e), BAD_ARG);
        }
    }

    // Promise 10
    private static void order() {
        answers("10: order", 3, new int[] {1});
        answers("10: order", 23, new int[] {1, 3, 3});
        answers("10: order", 84, new int[] {1, 2, 2, 2});
        answers("10: order", 63, new int[] {1, 4, 4, 2});
        answers("10: order", 400, new int[] {1, 2, 4, 4});
    }

    // Promise 11
    private static void roots() {
        QuadraticForms x = Due.at(63);
        int[] known = {1, 2, 1, 4, 1, 2, 1, 4};
        for (int m = 1; m <= 8; m++) {
            due.is("11: roots(" + m + ")", x.roots(m), known[m - 1]);
        }
        due.is("11: roots(999)", x.roots(999), 1);
        due.is("11: roots(1000)", x.roots(1000), 4);
        for (int m : new int[] {-2, -1, 0, 1001, 1002}) {
            due.is("11: roots(" + m + ")", x.roots(m), BAD_ARG);
        }
        due.is("11: roots(2) at 84", Due.at(84).roots(2), 4);
        due.is("11: roots(19) at 311", Due.at(311).roots(19), 19);
        due.is("11: roots(18) at 311", Due.at(311).roots(18), 1);
    }

    // Promise 12
    private static void squares() {
        due.is("12: squares() at 3", new QuadraticForms().squares(), 1);
        due.is("12: squares() at 23", Due.at(23).squares(), 3);
        due.is("12: squares() at 84", Due.at(84).squares(), 1);
        due.is("12: squares() at 63", Due.at(63).squares(), 2);
        due.is("12: squares() at 399", Due.at(399).squares(), 4);
        due.is("12: squares() at 311", Due.at(311).squares(), 19);
    }

    // Promise 13
    private static void gives() {
        QuadraticForms x = new QuadraticForms();
        x.discriminant(4);
        int[][] sumsOfTwoSquares = {{1, 4}, {2, 4}, {3, 0}, {4, 4}, {5, 8}, {25, 12}, {50, 12}, {65, 16},
            {325, 24}, {425, 24}, {499, 0}, {500, 16}};
        for (int[] row : sumsOfTwoSquares) {
            due.is("13: gives(0, " + row[0] + ") at 4", x.gives(0, row[0]), row[1]);
        }
        x.discriminant(3);
        due.is("13: gives(0, 49) at 3", x.gives(0, 49), 18);
        due.is("13: gives(0, 343) at 3", x.gives(0, 343), 24);
        // 4 * 499 / 3 is nearly reached: x = 25 with y = -13 or y = -12 gives 481 and 469.
        due.is("13: gives(0, 481) at 3", x.gives(0, 481), 24);
        due.is("13: gives(0, 469) at 3", x.gives(0, 469), 24);
        x.discriminant(23);
        due.is("13: gives(1, 12)", x.gives(1, 12), 4);
        due.is("13: gives(2, 36)", x.gives(2, 36), 6);
        due.is("13: gives(0, 484)", x.gives(0, 484), 2);
        wrongNumbers(x, 13);
    }

    private static void wrongNumbers(QuadraticForms x, int promise) {
        for (int n : new int[] {-1, 0, 501, 502}) {
            String with = "(0, " + n + ")";
            due.is(promise + ": gives" + with, x.gives(0, n), BAD_ARG);
            due.is(promise + ": givesFirst" + with, x.givesFirst(0, n), BAD_ARG);
            due.is(promise + ": all(" + n + ")", x.all(n), BAD_ARG);
            due.is(promise + ": least(" + n + ")", x.least(n), BAD_ARG);
        }
        for (int n : new int[] {1, 500}) {
            due.is(promise + ": gives(99, " + n + ")", x.gives(99, n), BAD_ARG);
            due.is(promise + ": gives(-1, " + n + ")", x.gives(-1, n), BAD_ARG);
            due.is(promise + ": givesFirst(99, " + n + ")", x.givesFirst(99, n), BAD_ARG);
            due.is(promise + ": givesFirst(-1, " + n + ")", x.givesFirst(-1, n), BAD_ARG);
        }
    }

    // Promise 14
    private static void givesFirst() {
        QuadraticForms x = Due.at(4);
        int[][] known = {{1, 4}, {2, 4}, {4, 0}, {5, 8}, {9, 0}, {25, 8}, {50, 8}, {65, 16}, {325, 16}, {500, 0}};
        for (int[] row : known) {
            due.is("14: givesFirst(0, " + row[0] + ") at 4", x.givesFirst(0, row[0]), row[1]);
        }
        x.discriminant(400);
        due.is("14: givesFirst(0, 1) at 400", x.givesFirst(0, 1), 2);
        due.is("14: givesFirst(0, 4) at 400", x.givesFirst(0, 4), 0);
        due.is("14: givesFirst(1, 4) at 400", x.givesFirst(1, 4), 2);
        due.is("14: givesFirst(0, 100) at 400", x.givesFirst(0, 100), 2);
        wrongNumbers(x, 14);
    }

    // Promise 15
    private static void all() {
        QuadraticForms x = Due.at(23);
        int[] known = {2, 4, 4, 6, 0, 8, 0, 8, 6, 0, 0, 12};
        for (int n = 1; n <= known.length; n++) {
            due.is("15: all(" + n + ")", x.all(n), known[n - 1]);
            due.is("15: the sum for " + n, x.gives(0, n) + x.gives(1, n) + x.gives(2, n), known[n - 1]);
        }
        due.is("15: all(500) at 4", Due.at(4).all(500), 16);
        due.is("15: all(500) at 399", Due.at(399).all(500), 24);
        wrongNumbers(x, 15);
    }

    // Promise 16
    private static void least() {
        QuadraticForms x = Due.at(23);
        due.is("16: least(1)", x.least(1), 0);
        due.is("16: least(2)", x.least(2), 1);
        due.is("16: least(3)", x.least(3), 1);
        // Classes 1 and 2 alone give 4 without a common divisor; class 0 needs 2 and 0.
        due.is("16: least(4)", x.least(4), 1);
        due.is("16: least(5)", x.least(5), NONE);
        due.is("16: least(6)", x.least(6), 0);
        due.is("16: least(8)", x.least(8), 0);
        due.is("16: least(500)", x.least(500), NONE);
        due.is("16: least(4) at 4", Due.at(4).least(4), NONE);
        due.is("16: least(500) at 400", Due.at(400).least(500), 0);
        wrongNumbers(x, 16);
    }

    // Promise 17
    private static void orderAndLimits() {
        QuadraticForms x = new QuadraticForms();
        due.is("17: least(2)", x.least(2), NONE);
        // The form of -3 would give 507, but none of the others, in such a way.
        due.is("17: least(0)", x.least(0), BAD_ARG);
        due.is("17: least(-1)", x.least(-1), BAD_ARG);
        due.is("17: least(503)", x.least(503), BAD_ARG);
        due.is("17: least(507)", x.least(507), BAD_ARG);
    }

    private static void refusedChangesNothing() {
        QuadraticForms x = Due.at(47);
        x.discriminant(5);
        x.discriminant(401);
        x.reduced(9, 9);
        x.classOf(0, 0);
        x.classOf(1, 0);
        x.product(5, 0);
        x.inverse(5);
        x.power(1, 1001);
        x.order(-1);
        x.roots(0);
        x.gives(0, 0);
        x.givesFirst(5, 1);
        x.all(501);
        x.least(501);
        due.is("classes() after refusals", x.classes(), 5);
        due.is("reduced(4, 2) after refusals", x.reduced(4, 2), 4);
        due.is("product(1, 1) after refusals", x.product(1, 1), 4);
        due.is("gives(3, 3) after refusals", x.gives(3, 3), 2);
        due.is("classOf(2, 1) after refusals", x.classOf(2, 1), 2);
        // (6, 5, 3), then (3, -5, 6), then (3, 1, 4).
        due.is("classOf(6, 5) after refusals", x.classOf(6, 5), 4);
        due.is("inverse(3) after refusals", x.inverse(3), 4);
    }

    // A greater discriminant leaves nothing behind for the classes of a lesser one.
    private static void noSuchClass() {
        QuadraticForms x = Due.at(399);
        x.discriminant(23);
        for (int k : new int[] {-2, -1, 3, 4, 15, 16, 65, 66, 67}) {
            noSuchClass(x, k);
        }
    }

    private static void noSuchClass(QuadraticForms x, int k) {
        due.is("reduced(" + k + ", 0)", x.reduced(k, 0), BAD_ARG);
        due.is("product(" + k + ", 0)", x.product(k, 0), BAD_ARG);
        due.is("product(0, " + k + ")", x.product(0, k), BAD_ARG);
        due.is("inverse(" + k + ")", x.inverse(k), BAD_ARG);
        due.is("power(" + k + ", 0)", x.power(k, 0), BAD_ARG);
        due.is("power(" + k + ", -1)", x.power(k, -1), BAD_ARG);
        due.is("order(" + k + ")", x.order(k), BAD_ARG);
        due.is("gives(" + k + ", 1)", x.gives(k, 1), BAD_ARG);
        due.is("givesFirst(" + k + ", 1)", x.givesFirst(k, 1), BAD_ARG);
    }

    private static void farOut() {
        for (int far : Due.FAR_OUT) {
            QuadraticForms x = Due.at(23);
            noSuchClass(x, far);
            due.is("discriminant(" + far + ")", x.discriminant(far), BAD_ARG);
            due.is("reduced(0, " + far + ")", x.reduced(0, far), BAD_ARG);
            due.is("classOf(" + far + ", 1)", x.classOf(far, 1), BAD_ARG);
            due.is("classOf(1, " + far + ")", x.classOf(1, far), BAD_ARG);
            due.is("classOf(" + far + ", " + far + ")", x.classOf(far, far), BAD_ARG);
            due.is("product(" + far + ", " + far + ")", x.product(far, far), BAD_ARG);
            due.is("power(1, " + far + ")", x.power(1, far), BAD_ARG);
            due.is("power(" + far + ", " + far + ")", x.power(far, far), BAD_ARG);
            due.is("roots(" + far + ")", x.roots(far), BAD_ARG);
            due.is("gives(0, " + far + ")", x.gives(0, far), BAD_ARG);
            due.is("givesFirst(0, " + far + ")", x.givesFirst(0, far), BAD_ARG);
            due.is("all(" + far + ")", x.all(far), BAD_ARG);
            due.is("least(" + far + ")", x.least(far), BAD_ARG);
        }
    }
}
