/** The boundary cases of promises 1 to 12, sentence by sentence. */
public final class ClassBoundariesTest {
    private static final int BAD_ARG = Due.BAD_ARG;
    private static final int NONE = Due.NONE;
    private static final Due due = new Due("ClassBoundariesTest");

    public static void main(String[] args) {
        newObject();
        becomesMinusD();
        nothingLeftOfFormerD();
        discriminantOutOfRange();
        discriminantModulo4();
        classesThen();
        classes();
        reducedOfClass();
        reducedPart();
        classOfAtTheEnds();
        classOfOutOfRange();
        classOfInThisOrder();
        classOfNoSuchForm();
        neutral();
        product();
        inverse();
        powerAtTheEnds();
        powerZero();
        powerOutOfRange();
        powerBelow0();
        order();
        roots();
        rootsOutOfRange();
        squares();
        due.end();
    }

    private static void newObject() {
        due.sentence("Promise 1", "D is -3.");
        QuadraticForms x = new QuadraticForms();
        due.is("classes()", x.classes(), 1);
        for (int part = 0; part < 3; part++) {
            due.is("reduced(0, " + part + ")", x.reduced(0, part), 1);
        }
        due.is("neutral()", x.neutral(), 0);
        due.is("product(0, 0)", x.product(0, 0), 0);
        due.is("inverse(0)", x.inverse(0), 0);
        due.is("classOf(1, 1)", x.classOf(1, 1), 0);
        due.is("classOf(1, 0)", x.classOf(1, 0), NONE);
        due.is("gives(0, 1)", x.gives(0, 1), 6);
        due.is("reduced(1, 0)", x.reduced(1, 0), BAD_ARG);
    }

    private static void becomesMinusD() {
        due.sentence("Promise 2", "D becomes -d.");
        QuadraticForms x = new QuadraticForms();
        for (int d : new int[] {400, 3, 399, 4, 396, 7, 7, 8, 395, 3, 400, 400}) {
            x.discriminant(d);
            int b = x.reduced(0, 1);
            due.is("D after discriminant(" + d + ")", b * b - 4 * x.reduced(0, 0) * x.reduced(0, 2), -d);
        }
    }

    private static void nothingLeftOfFormerD() {
        due.sentence("Promise 2", "D becomes -d.");
        QuadraticForms x = Due.at(20);
        x.discriminant(12);
        due.is("reduced(1, 0) at 12 after 20", x.reduced(1, 0), BAD_ARG);
        // (2, 2, 3) was a form of -20, (2, 2, 2) is none of -12.
        due.is("classOf(2, 2) at 12 after 20", x.classOf(2, 2), NONE);
        // (4, 0, 25) was one of -400; it gives 4 and 500.
        x.discriminant(400);
        x.discriminant(3);
        due.is("all(4) at 3 after 400", x.all(4), 6);
        due.is("all(500) at 3 after 400", x.all(500), 0);
        due.is("least(4) at 3 after 400", x.least(4), NONE);
        due.is("least(500) at 3 after 400", x.least(500), NONE);
        due.is("roots(4) at 3 after 400", x.roots(4), 1);
        due.is("squares() at 3 after 400", x.squares(), 1);
        due.is("product(1, 1) at 3 after 400", x.product(1, 1), BAD_ARG);
    }

    private static void discriminantOutOfRange() {
        due.sentence("Promise 2", "BAD_ARG if d is not 3 to 400");
        // 0, -1, -4, -5, 403, 404 and the ends of int would be right modulo 4.
        for (int d : new int[] {-404, -403, -400, -399, -24, -23, -5, -4, -3, -2, -1, 0, 1, 2, 401, 402, 403, 404,
            407, 408, 799, 800}) {
            due.badArg("discriminant(" + d + ")", x -> x.discriminant(d));
        }
        for (int d : Due.FAR_OUT) {
            due.badArg("discriminant(" + d + ")", x -> x.discriminant(d));
        }
        due.is("discriminant(3)", new QuadraticForms().discriminant(3), 1);
        due.is("discriminant(400)", new QuadraticForms().discriminant(400), 4);
    }

    private static void discriminantModulo4() {
        due.sentence("Promise 2", "or d modulo 4 is 1 or 2");
        for (int d = 3; d <= 400; d++) {
            int minus = d;
            if (d % 4 == 1 || d % 4 == 2) {
                due.refused("discriminant(" + d + ")", 23, BAD_ARG, x -> x.discriminant(minus));
            } else {
                int answer = new QuadraticForms().discriminant(d);
                due.is("discriminant(" + d + ") is taken:", answer >= 1 ? 1 : 0, 1);
            }
        }
    }

    private static void classesThen() {
        due.sentence("Promise 2", "Otherwise the number of classes then.");
        QuadraticForms x = new QuadraticForms();
        // Nine with one class, and the two with the most.
        int[][] known = {{3, 1}, {311, 19}, {4, 1}, {359, 19}, {7, 1}, {8, 1}, {11, 1}, {19, 1}, {43, 1}, {67, 1},
            {163, 1}, {399, 16}, {400, 4}, {15, 2}, {15, 2}};
        for (int[] row : known) {
            due.is("discriminant(" + row[0] + ")", x.discriminant(row[0]), row[1]);
        }
    }

    private static void classes() {
        due.sentence("Promise 3", "The number of classes.");
        QuadraticForms x = new QuadraticForms();
        due.is("classes() of a new object", x.classes(), 1);
        x.discriminant(311);
        due.is("classes() with the most", x.classes(), 19);
        x.discriminant(310);
        due.is("classes() after a refused discriminant", x.classes(), 19);
        x.discriminant(163);
        due.is("classes() with the fewest", x.classes(), 1);
    }

    private static void reducedOfClass() {
        due.sentence("Promise 4", "The a (part 0), b (part 1) or c (part 2) of the reduced form of class k");
        int[][] first = {{3, 1, 1, 1}, {4, 1, 0, 1}, {311, 1, 1, 78}, {399, 1, 1, 100}, {400, 1, 0, 100}};
        int[][] last = {{3, 1, 1, 1}, {4, 1, 0, 1}, {311, 9, 7, 10}, {399, 10, 9, 12}, {400, 8, 4, 13}};
        for (int row = 0; row < first.length; row++) {
            QuadraticForms x = Starts.make(first[row][0]);
            int greatest = Starts.classes(first[row][0]) - 1;
            for (int part = 0; part < 3; part++) {
                String told = ", " + part + ") at " + first[row][0];
                due.is("reduced(0" + told, x.reduced(0, part), first[row][part + 1]);
                due.is("reduced(" + greatest + told, x.reduced(greatest, part), last[row][part + 1]);
            }
        }
        for (int part = 0; part < 3; part++) {
            int asked = part;
            for (int start : Starts.ALL) {
                int past = Starts.classes(start);
                due.refused("reduced(" + past + ", " + part + ")", start, BAD_ARG, x -> x.reduced(past, asked));
            }
            due.badArg("reduced(-1, " + part + ")", x -> x.reduced(-1, asked));
        }
    }

    private static void reducedPart() {
        due.sentence("Promise 4", "BAD_ARG, too, if part is not 0 to 2");
        for (int part : new int[] {-2, -1, 3, 4, 1000000, -1000000, Integer.MIN_VALUE, Integer.MAX_VALUE}) {
            due.badArg("reduced(0, " + part + ")", x -> x.reduced(0, part));
            due.badArg("reduced(-1, " + part + ")", x -> x.reduced(-1, part));
            due.badArg("reduced(19, " + part + ")", x -> x.reduced(19, part));
        }
        QuadraticForms x = Due.at(84);
        due.is("reduced(3, 0)", x.reduced(3, 0), 5);
        due.is("reduced(3, 1)", x.reduced(3, 1), 4);
        due.is("reduced(3, 2)", x.reduced(3, 2), 5);
    }

    private static void classOfAtTheEnds() {
        due.sentence("Promise 5", "The class of the form (a, b, c) with these a and b.");
        // {d, a, b, class}: a and b as great and as little as there are forms.
        int[][] known = {{3, 1, 1, 0}, {4, 1, 0, 0}, {4, 1, 1000, 0}, {4, 1, -1000, 0}, {3, 1, 999, 0},
            {3, 1, -999, 0}, {71, 1000, 827, 6}, {71, 1000, -827, 5}, {71, 1000, 923, 4}, {71, 1000, -923, 3},
            {311, 1000, 883, 13}, {311, 1000, -883, 14}, {399, 1000, 551, 15}, {399, 1000, -551, 13},
            {400, 1000, 940, 1}, {400, 1000, -940, 1}, {360, 890, 1000, 5}, {360, 890, -1000, 7},
            {244, 973, 1000, 0}, {244, 973, -1000, 0}, {399, 960, 999, 1}, {399, 960, -999, 2}, {399, 975, 999, 0}};
        for (int[] row : known) {
            due.is("classOf(" + row[1] + ", " + row[2] + ") at " + row[0],
                Due.at(row[0]).classOf(row[1], row[2]), row[3]);
        }
    }

    private static void classOfOutOfRange() {
        due.sentence("Promise 5", "a not 1 to 1000 or b not -1000 to 1000 answers BAD_ARG");
        int[] wrongA = {-1000, -2, -1, 0, 1001, 1002, 65536, Integer.MIN_VALUE, Integer.MAX_VALUE};
        int[] wrongB = {-1002, -1001, 1001, 1002, 65536, -65536, Integer.MIN_VALUE, Integer.MAX_VALUE};
        for (int a : wrongA) {
            due.badArg("classOf(" + a + ", 0)", x -> x.classOf(a, 0));
            due.badArg("classOf(" + a + ", 1)", x -> x.classOf(a, 1));
        }
        for (int b : wrongB) {
            due.badArg("classOf(1, " + b + ")", x -> x.classOf(1, b));
            due.badArg("classOf(1000, " + b + ")", x -> x.classOf(1000, b));
        }
        // Forms that there are, just outside.
        due.is("classOf(1001, 63) at 35", Due.at(35).classOf(1001, 63), BAD_ARG);
        due.is("classOf(1001, -63) at 35", Due.at(35).classOf(1001, -63), BAD_ARG);
        due.is("classOf(1, 1001) at 3", Due.at(3).classOf(1, 1001), BAD_ARG);
        due.is("classOf(1, -1001) at 3", Due.at(3).classOf(1, -1001), BAD_ARG);
    }

    private static void classOfInThisOrder() {
        due.sentence("Promise 5", "Tested in this order");
        // There is no form of these, either.
        due.badArg("classOf(0, 0)", x -> x.classOf(0, 0));
        due.badArg("classOf(1001, 1000)", x -> x.classOf(1001, 1000));
        due.badArg("classOf(1000, 1001)", x -> x.classOf(1000, 1001));
        due.badArg("classOf(1000, -1001)", x -> x.classOf(1000, -1001));
        for (int a : Due.FAR_OUT) {
            for (int b : Due.FAR_OUT) {
                due.refused("classOf(" + a + ", " + b + ")", 23, BAD_ARG, x -> x.classOf(a, b));
            }
        }
    }

    private static void classOfNoSuchForm() {
        due.sentence("Promise 5", "there is no such form answers NONE");
        for (int start : Starts.ALL) {
            int even = start % 2 == 1 || start == Starts.NEW ? 0 : 1;
            due.refused("classOf(1, " + even + ")", start, NONE, x -> x.classOf(1, even));
            due.refused("classOf(1000, 1000)", start, NONE, x -> x.classOf(1000, 1000));
            due.refused("classOf(1000, -1000)", start, NONE, x -> x.classOf(1000, -1000));
            due.refused("classOf(1000, 0)", start, NONE, x -> x.classOf(1000, 0));
        }
        // A common divisor: (10, 0, 10), (2, 0, 50), (5, 0, 20), (10, 10, ..) is none at all.
        for (int[] row : new int[][] {{10, 0}, {2, 0}, {5, 0}, {50, 0}, {10, 10}, {1000, 860}, {1000, -860}}) {
            due.refused("classOf(" + row[0] + ", " + row[1] + ")", 400, NONE, x -> x.classOf(row[0], row[1]));
        }
    }

    private static void neutral() {
        due.sentence("Promise 6", "The neutral class.");
        for (int start : Starts.ALL) {
            QuadraticForms x = Starts.make(start);
            due.is("neutral()" + Starts.name(start), x.neutral(), 0);
            due.is("a of it" + Starts.name(start), x.reduced(x.neutral(), 0), 1);
        }
    }

    private static void product() {
        due.sentence("Promise 7", "The product of classes i and j.");
        due.is("product(0, 0) on a new object", new QuadraticForms().product(0, 0), 0);
        due.is("product(0, 18) at 311", Due.at(311).product(0, 18), 18);
        due.is("product(18, 0) at 311", Due.at(311).product(18, 0), 18);
        due.is("product(17, 18) at 311", Due.at(311).product(17, 18), 0);
        for (int start : Starts.ALL) {
            int past = Starts.classes(start);
            int[] wrong = {-1, past, past + 1, 66, 4356, -66, Integer.MIN_VALUE, Integer.MAX_VALUE};
            for (int k : wrong) {
                due.refused("product(" + k + ", 0)", start, BAD_ARG, x -> x.product(k, 0));
                due.refused("product(0, " + k + ")", start, BAD_ARG, x -> x.product(0, k));
                due.refused("product(" + k + ", " + k + ")", start, BAD_ARG, x -> x.product(k, k));
                due.refused("product(last, " + k + ")", start, BAD_ARG, x -> x.product(past - 1, k));
            }
        }
    }

    private static void inverse() {
        due.sentence("Promise 8", "The class whose product with class i is the neutral one.");
        for (int start : Starts.ALL) {
            int past = Starts.classes(start);
            due.is("inverse(0)" + Starts.name(start), Starts.make(start).inverse(0), 0);
            for (int k : new int[] {-1, past, past + 1, Integer.MIN_VALUE, Integer.MAX_VALUE}) {
                due.refused("inverse(" + k + ")", start, BAD_ARG, x -> x.inverse(k));
            }
        }
        due.is("inverse(18) at 311", Due.at(311).inverse(18), 17);
        due.is("inverse(17) at 311", Due.at(311).inverse(17), 18);
        // a = b and a = c: a class that is its own inverse.
        due.is("inverse(1) at 84", Due.at(84).inverse(1), 1);
        due.is("inverse(3) at 84", Due.at(84).inverse(3), 3);
    }

    private static void powerAtTheEnds() {
        due.sentence("Promise 9", "The product of e times class i");
        QuadraticForms x = Due.at(47);
        // The order is 5; 1, 4, 3, 2, 0 are the powers of class 1.
        int[][] known = {{1, 1}, {2, 4}, {3, 3}, {4, 2}, {5, 0}, {6, 1}, {996, 1}, {998, 3}, {999, 2}, {1000, 0}};
        for (int[] row : known) {
            due.is("power(1, " + row[0] + ") at 47", x.power(1, row[0]), row[1]);
        }
        due.is("power(18, 1000) at 311", Due.at(311).power(18, 1000), Due.at(311).power(18, 1000 % 19));
        due.is("power(0, 1000)", x.power(0, 1000), 0);
    }

    private static void powerZero() {
        due.sentence("Promise 9", "(the neutral one for e = 0)");
        for (int start : Starts.ALL) {
            int past = Starts.classes(start);
            for (int k = 0; k < past; k++) {
                due.is("power(" + k + ", 0)" + Starts.name(start), Starts.make(start).power(k, 0), 0);
            }
            for (int k : new int[] {-1, past, Integer.MIN_VALUE, Integer.MAX_VALUE}) {
                due.refused("power(" + k + ", 0)", start, BAD_ARG, x -> x.power(k, 0));
            }
        }
    }

    private static void powerOutOfRange() {
        due.sentence("Promise 9", "BAD_ARG if e is not -1000 to 1000");
        for (int e : new int[] {-1002, -1001, 1001, 1002, -1000001, -1000000, 1000000, Integer.MIN_VALUE,
            Integer.MIN_VALUE + 1, Integer.MAX_VALUE - 1, Integer.MAX_VALUE}) {
            due.badArg("power(0, " + e + ")", x -> x.power(0, e));
            due.badArg("power(-1, " + e + ")", x -> x.power(-1, e));
            due.badArg("power(19, " + e + ")", x -> x.power(19, e));
        }
        due.is("power(1, 1000) at 23", Due.at(23).power(1, 1000), 1);
        due.is("power(1, -1000) at 23", Due.at(23).power(1, -1000), 2);
    }

    private static void powerBelow0() {
        due.sentence("Promise 9", "for e below 0 that of -e times the inverse");
        QuadraticForms x = Due.at(47);
        int[][] known = {{-1, 2}, {-2, 3}, {-3, 4}, {-4, 1}, {-5, 0}, {-6, 2}, {-998, 4}, {-999, 1}, {-1000, 0}};
        for (int[] row : known) {
            due.is("power(1, " + row[0] + ") at 47", x.power(1, row[0]), row[1]);
        }
        for (int start : Starts.ALL) {
            int past = Starts.classes(start);
            for (int k : new int[] {-1, past, Integer.MIN_VALUE, Integer.MAX_VALUE}) {
                due.refused("power(" + k + ", -1)", start, BAD_ARG, y -> y.power(k, -1));
                due.refused("power(" + k + ", -1000)", start, BAD_ARG, y -> y.power(k, -1000));
            }
        }
    }

    private static void order() {
        due.sentence("Promise 10", "The least e above 0 such that power(i, e) is the neutral class.");
        for (int start : Starts.ALL) {
            int past = Starts.classes(start);
            due.is("order(0)" + Starts.name(start), Starts.make(start).order(0), 1);
            for (int k : new int[] {-1, past, past + 1, Integer.MIN_VALUE, Integer.MAX_VALUE}) {
                due.refused("order(" + k + ")", start, BAD_ARG, x -> x.order(k));
            }
        }
        // The greatest there are: as many as there are classes.
        due.is("order(1) at 311", Due.at(311).order(1), 19);
        due.is("order(18) at 311", Due.at(311).order(18), 19);
        due.is("order(18) at 359", Due.at(359).order(18), 19);
        due.is("order(1) at 400", Due.at(400).order(1), 2);
        due.is("order(3) at 400", Due.at(400).order(3), 4);
    }

    private static void roots() {
        due.sentence("Promise 11", "How many classes i have power(i, m) as the neutral one");
        for (int start : Starts.ALL) {
            QuadraticForms x = Starts.make(start);
            due.is("roots(1)" + Starts.name(start), x.roots(1), 1);
            due.is("roots of all" + Starts.name(start), x.roots(Starts.classes(start)), Starts.classes(start));
        }
        due.is("roots(1000) at 47", Due.at(47).roots(1000), 5);
        due.is("roots(999) at 47", Due.at(47).roots(999), 1);
        due.is("roots(1000) at 311", Due.at(311).roots(1000), 1);
        due.is("roots(988) at 311", Due.at(311).roots(988), 19);
        due.is("roots(1000) at 399", Due.at(399).roots(1000), 16);
    }

    private static void rootsOutOfRange() {
        due.sentence("Promise 11", "BAD_ARG if m is not 1 to 1000");
        for (int m : new int[] {-1000, -2, -1, 0, 1001, 1002}) {
            due.badArg("roots(" + m + ")", x -> x.roots(m));
        }
        for (int m : Due.FAR_OUT) {
            due.badArg("roots(" + m + ")", x -> x.roots(m));
        }
    }

    private static void squares() {
        due.sentence("Promise 12", "How many classes are products of some class with itself.");
        // All of them, the neutral one alone, and some between.
        int[][] known = {{3, 1}, {4, 1}, {23, 3}, {311, 19}, {84, 1}, {15, 1}, {63, 2}, {399, 4}, {400, 2}};
        for (int[] row : known) {
            due.is("squares() at " + row[0], Due.at(row[0]).squares(), row[1]);
        }
        due.is("squares() on a new object", new QuadraticForms().squares(), 1);
    }
}
