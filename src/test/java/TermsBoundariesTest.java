/** The boundary cases of 'What it is' and 'Terms', sentence by sentence. */
public final class TermsBoundariesTest {
    private static final int BAD_ARG = Due.BAD_ARG;
    private static final int NONE = Due.NONE;
    private static final Due due = new Due("TermsBoundariesTest");

    public static void main(String[] args) {
        lastOf512Calls();
        discriminants();
        commonDivisor();
        equivalent();
        middleAtItsEnds();
        firstAndLastEqual();
        oneReducedFormForEachClass();
        numberedFrom0();
        productOfAnyTwo();
        productAlwaysTheSame();
        neutralHasFirst1();
        neverThrows();
        refusedChangesNothing();
        classNotThere();
        due.end();
    }

    private static void lastOf512Calls() {
        due.sentence("What it is", "An object is used for at most 512 calls after it has been made");
        QuadraticForms refused = new QuadraticForms();
        QuadraticForms changed = new QuadraticForms();
        QuadraticForms queried = new QuadraticForms();
        for (int call = 1; call <= 511; call++) {
            due.is("refused call " + call, refused.discriminant(call % 2 == 0 ? 401 : -call), BAD_ARG);
            boolean much = call % 2 == 1;
            due.is("discriminant in call " + call, changed.discriminant(much ? 399 : 3), much ? 16 : 1);
            due.is("query in call " + call, queried.power(0, 1000), 0);
        }
        due.is("gives(0, 49) in call 512 after refused ones", refused.gives(0, 49), 18);
        due.is("order(1) in call 512 after new discriminants", changed.order(1), 8);
        due.is("discriminant(311) in call 512 after queries", queried.discriminant(311), 19);
    }

    private static void discriminants() {
        due.sentence("Terms", "The DISCRIMINANT D is a whole number from -3 down to -400 that is, modulo 4, 0 or 1");
        for (int minus = -800; minus <= 800; minus++) {
            boolean is = minus >= 3 && minus <= 400 && Math.floorMod(-minus, 4) <= 1;
            int answer = new QuadraticForms().discriminant(minus);
            due.is("discriminant(" + minus + ") is one:", answer == BAD_ARG ? 0 : 1, is ? 1 : 0);
        }
    }

    private static void commonDivisor() {
        due.sentence("Terms", "a > 0 and no common divisor of all three above 1");
        // (2, 2, 2), (3, 3, 3), (11, 11, 11) and (10, 0, 10) are no forms.
        due.is("classes() at 12", Due.at(12).classes(), 1);
        due.is("classOf(2, 2) at 12", Due.at(12).classOf(2, 2), NONE);
        due.is("classes() at 27", Due.at(27).classes(), 1);
        due.is("classOf(3, 3) at 27", Due.at(27).classOf(3, 3), NONE);
        due.is("classOf(11, 11) at 363", Due.at(363).classOf(11, 11), NONE);
        due.is("reduced(3, 0) at 363", Due.at(363).reduced(3, 0), 7);
        due.is("classOf(10, 0) at 400", Due.at(400).classOf(10, 0), NONE);
        // Far from reduced: (1000, 860, 185) has the divisor 5.
        due.is("classOf(1000, 860) at 400", Due.at(400).classOf(1000, 860), NONE);
        // A divisor of two of them alone is no hindrance: (2, 2, 3) and (4, 0, 25).
        due.is("classOf(2, 2) at 20", Due.at(20).classOf(2, 2), 1);
        due.is("classOf(4, 0) at 400", Due.at(400).classOf(4, 0), 1);
        due.is("classOf(0, 0), a not above 0", Due.at(4).classOf(0, 0), BAD_ARG);
        due.is("classOf(-1, 0), a not above 0", Due.at(4).classOf(-1, 0), BAD_ARG);
    }

    private static void equivalent() {
        due.sentence("Terms", "whole numbers p, q, r, s for which p s - q r = 1");
        // p s - q r = -1 would make (2, -1, 3) and (2, 1, 3) equivalent.
        due.is("classOf(2, -1) at 23", Due.at(23).classOf(2, -1), 1);
        due.is("classOf(2, 1) at 23", Due.at(23).classOf(2, 1), 2);
        // y for x and -x for y; x + y for x; both.
        due.is("classOf(3, 1) at 23", Due.at(23).classOf(3, 1), 1);
        due.is("classOf(2, 3) at 23", Due.at(23).classOf(2, 3), 1);
        due.is("classOf(4, -3) at 23", Due.at(23).classOf(4, -3), 1);
        due.is("classOf(4, 3) at 23", Due.at(23).classOf(4, 3), 2);
    }

    private static void middleAtItsEnds() {
        due.sentence("Terms", "A form is REDUCED if -a < b <= a <= c");
        // b = a is, b = -a is not.
        forms(3, new int[][] {{1, 1, 1}});
        forms(20, new int[][] {{1, 0, 5}, {2, 2, 3}});
        forms(39, new int[][] {{1, 1, 10}, {2, -1, 5}, {2, 1, 5}, {3, 3, 4}});
        due.is("classOf(2, -2) at 20", Due.at(20).classOf(2, -2), 1);
        due.is("classOf(3, -3) at 39", Due.at(39).classOf(3, -3), 3);
        // b = a - 1 and b = 1 - a both are.
        forms(56, new int[][] {{1, 0, 14}, {2, 0, 7}, {3, -2, 5}, {3, 2, 5}});
        // a = c is, a = c + 1 is not.
        forms(35, new int[][] {{1, 1, 9}, {3, 1, 3}});
        due.is("classOf(3, 1) at 23", Due.at(23).classOf(3, 1), 1);
        // The greatest a of all.
        forms(384, new int[][] {{1, 0, 96}, {3, 0, 32}, {4, 4, 25}, {5, -4, 20}, {5, 4, 20}, {7, -6, 15},
            {7, 6, 15}, {11, 10, 11}});
    }

    private static void firstAndLastEqual() {
        due.sentence("Terms", "and b >= 0 if a = c");
        forms(4, new int[][] {{1, 0, 1}});
        forms(15, new int[][] {{1, 1, 4}, {2, 1, 2}});
        forms(84, new int[][] {{1, 0, 21}, {2, 2, 11}, {3, 0, 7}, {5, 4, 5}});
        due.is("classOf(1, -1) at 3", Due.at(3).classOf(1, -1), 0);
        due.is("classOf(2, -1) at 15", Due.at(15).classOf(2, -1), 1);
        due.is("classOf(3, -1) at 35", Due.at(35).classOf(3, -1), 1);
        due.is("classOf(5, -4) at 84", Due.at(84).classOf(5, -4), 3);
        due.is("classOf(5, -1) at 99", Due.at(99).classOf(5, -1), 1);
    }

    private static void forms(int d, int[][] want) {
        QuadraticForms x = Due.at(d);
        due.is("classes() at " + d, x.classes(), want.length);
        for (int k = 0; k < want.length; k++) {
            for (int part = 0; part < 3; part++) {
                due.is("reduced(" + k + ", " + part + ") at " + d, x.reduced(k, part), want[k][part]);
            }
        }
    }

    private static void oneReducedFormForEachClass() {
        due.sentence("Terms", "Each class has just one reduced form.");
        for (int start : Starts.ALL) {
            QuadraticForms x = Starts.make(start);
            for (int k = 0; k < Starts.classes(start); k++) {
                int itself = x.classOf(x.reduced(k, 0), x.reduced(k, 1));
                due.is("class of the reduced form of " + k + Starts.name(start), itself, k);
            }
        }
    }

    private static void numberedFrom0() {
        due.sentence("Terms", "CLASSES are numbered from 0 on by their reduced forms, the lesser a first, of equal ones"
            + " the lesser b first.");
        // The most classes that there are, with four of the same a.
        forms(311, new int[][] {{1, 1, 78}, {2, -1, 39}, {2, 1, 39}, {3, -1, 26}, {3, 1, 26}, {4, -3, 20},
            {4, 3, 20}, {5, -3, 16}, {5, 3, 16}, {6, -5, 14}, {6, -1, 13}, {6, 1, 13}, {6, 5, 14}, {7, -5, 12},
            {7, 5, 12}, {8, -3, 10}, {8, 3, 10}, {9, -7, 10}, {9, 7, 10}});
        // c plays no part: 100, 25, 13, 13.
        forms(400, new int[][] {{1, 0, 100}, {4, 0, 25}, {8, -4, 13}, {8, 4, 13}});
    }

    private static void productOfAnyTwo() {
        due.sentence("Terms", "such that a and e have no common divisor above 1");
        // The reduced forms of these have a common divisor of their a, so others are needed.
        due.is("product(1, 1) at 23", Due.at(23).product(1, 1), 2);
        due.is("product(1, 2) at 23", Due.at(23).product(1, 2), 0);
        due.is("product(1, 1) at 84", Due.at(84).product(1, 1), 0);
        due.is("product(1, 2) at 400", Due.at(400).product(1, 2), 3);
        due.is("product(2, 2) at 400", Due.at(400).product(2, 2), 1);
        due.is("product(2, 3) at 400", Due.at(400).product(2, 3), 0);
        due.is("product(15, 15) at 399", Due.at(399).product(15, 15), 10);
    }

    private static void productAlwaysTheSame() {
        due.sentence("Terms", "its class, which is always the same, is the product");
        for (int start : Starts.ALL) {
            QuadraticForms x = Starts.make(start);
            int last = Starts.classes(start) - 1;
            int product = x.product(last, last / 2);
            due.is("turned round" + Starts.name(start), x.product(last / 2, last), product);
            x.classOf(1000, 1);
            x.power(last, 1000);
            due.is("asked again" + Starts.name(start), x.product(last, last / 2), product);
        }
    }

    private static void neutralHasFirst1() {
        due.sentence("Terms", "its neutral one is the class that has a form with a = 1");
        for (int start : Starts.ALL) {
            QuadraticForms x = Starts.make(start);
            int odd = start == Starts.NEW ? 1 : start % 2;
            due.is("classOf(1, " + odd + ")" + Starts.name(start), x.classOf(1, odd), x.neutral());
            due.is("classOf(1, " + -odd + ")" + Starts.name(start), x.classOf(1, -odd), x.neutral());
            for (int k = 0; k < Starts.classes(start); k++) {
                due.is("product(neutral, " + k + ")" + Starts.name(start), x.product(x.neutral(), k), k);
                due.is("product(" + k + ", neutral)" + Starts.name(start), x.product(k, x.neutral()), k);
            }
        }
    }

    private static void neverThrows() {
        due.sentence("Terms", "No call ever throws.");
        for (int far : Due.FAR_OUT) {
            for (int other : Due.FAR_OUT) {
                try {
                    QuadraticForms x = Due.at(399);
                    x.discriminant(far);
                    x.reduced(far, other);
                    x.classOf(far, other);
                    x.product(far, other);
                    x.inverse(far);
                    x.power(far, other);
                    x.order(far);
                    x.roots(far);
                    x.gives(far, other);
                    x.givesFirst(far, other);
                    x.all(far);
                    x.least(far);
                    due.is("classes() after all", x.classes(), 16);
                } catch (Throwable thrown) {
                    due.is("with " + far + " and " + other + ": " + thrown, 1, 0);
                }
            }
        }
    }

    private static void refusedChangesNothing() {
        due.sentence("Terms", "A refused call answers the code named and changes nothing.");
        due.badArg("discriminant(2)", x -> x.discriminant(2));
        due.badArg("reduced(0, 3)", x -> x.reduced(0, 3));
        due.badArg("classOf(0, 1)", x -> x.classOf(0, 1));
        due.badArg("product(0, 19)", x -> x.product(0, 19));
        due.badArg("inverse(19)", x -> x.inverse(19));
        due.badArg("power(0, 1001)", x -> x.power(0, 1001));
        due.badArg("order(19)", x -> x.order(19));
        due.badArg("roots(1001)", x -> x.roots(1001));
        due.badArg("gives(0, 501)", x -> x.gives(0, 501));
        due.badArg("givesFirst(0, 501)", x -> x.givesFirst(0, 501));
        due.badArg("all(501)", x -> x.all(501));
        due.badArg("least(501)", x -> x.least(501));
        for (int start : Starts.ALL) {
            due.refused("classOf(1000, 1000)", start, NONE, x -> x.classOf(1000, 1000));
        }
        for (int start : new int[] {Starts.NEW, 3, 23, 84}) {
            due.refused("least(500)", start, NONE, x -> x.least(500));
        }
    }

    private static void classNotThere() {
        due.sentence("Terms", "A class that is not there answers BAD_ARG.");
        for (int d = 3; d <= 400; d++) {
            if (d % 4 == 0 || d % 4 == 3) {
                // Filled before with the most classes, so that a stale one would answer.
                QuadraticForms x = Due.at(311);
                int count = x.discriminant(d);
                classEnds(x, d, count);
                for (int k : new int[] {-1, count, count + 1, Integer.MIN_VALUE, Integer.MAX_VALUE}) {
                    notThere(x, d, k);
                }
            }
        }
    }

    private static void classEnds(QuadraticForms x, int d, int count) {
        for (int k : new int[] {0, count - 1}) {
            String told = "(" + k + ") is there at " + d + ":";
            due.is("reduced" + told, x.reduced(k, 0) > 0 ? 1 : 0, 1);
            due.is("product" + told, x.product(k, 0), k);
            due.is("inverse" + told, x.product(k, x.inverse(k)), 0);
            due.is("power" + told, x.power(k, 1), k);
            due.is("order" + told, x.power(k, x.order(k)), 0);
            due.is("gives" + told, x.gives(k, x.reduced(k, 0)) > 0 ? 1 : 0, 1);
            due.is("givesFirst" + told, x.givesFirst(k, x.reduced(k, 0)) > 0 ? 1 : 0, 1);
        }
    }

    private static void notThere(QuadraticForms x, int d, int k) {
        String told = "(" + k + ") is not there at " + d + ":";
        for (int part = 0; part <= 2; part++) {
            due.is("reduced" + told, x.reduced(k, part), BAD_ARG);
        }
        due.is("product first" + told, x.product(k, 0), BAD_ARG);
        due.is("product second" + told, x.product(0, k), BAD_ARG);
        due.is("product both" + told, x.product(k, k), BAD_ARG);
        due.is("inverse" + told, x.inverse(k), BAD_ARG);
        due.is("power 0" + told, x.power(k, 0), BAD_ARG);
        due.is("power 1" + told, x.power(k, 1), BAD_ARG);
        due.is("power -1" + told, x.power(k, -1), BAD_ARG);
        due.is("order" + told, x.order(k), BAD_ARG);
        due.is("gives" + told, x.gives(k, 1), BAD_ARG);
        due.is("givesFirst" + told, x.givesFirst(k, 1), BAD_ARG);
    }
}
