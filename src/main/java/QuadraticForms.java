/**
 * Forms a x^2 + b x y + c y^2 of one negative discriminant, their classes,
 * products of classes, and the numbers that forms give.
 */
public final class QuadraticForms {
    /** An argument is out of its range. */
    public static final int BAD_ARG = -1000000;
    /** There is no such thing. */
    public static final int NONE = -1000001;

    private static final int LEAST_D = 3;
    private static final int MOST_D = 400;
    // A reduced form has 3 a a <= -D <= 400.
    private static final int MOST_A = 11;
    // b has the parity of D and -a < b <= a, which leaves a choices of b for
    // each a: 1 + 2 + .. + 11 forms at most.
    private static final int MOST_CLASSES = 66;
    private static final int MOST_PRODUCTS = MOST_CLASSES * MOST_CLASSES;
    private static final int MOST_FORM_ARG = 1000;
    private static final int MOST_POWER = 1000;
    private static final int MOST_N = 500;
    // A reduced form that gives n has x x and y y at most 4 n / 3, so below 26 * 26.
    private static final int REACH = 25;
    // Far above the 133 that the hardest product needs: every reduced form gives a
    // number without a common divisor with an a up to 11 at one of (1, 0), (0, 1),
    // (1, 1), (1, -1), (1, 2), (1, -2), (2, 1), (-2, 1), (3, 1), so one up to 403.
    // Low enough that no square of a middle number overflows.
    private static final int MOST_FIRST = 1000;
    // Euclid's steps and reduction steps on an int stay below 50.
    private static final int MOST_STEPS = 1000;
    // The neutral class has the reduced form with a = 1, and there is only one such.
    private static final int NEUTRAL = 0;

    // -D, so that it is above 0.
    private int minusD;
    private int count;
    private final int[] formA = new int[MOST_CLASSES];
    private final int[] formB = new int[MOST_CLASSES];
    private final int[] formC = new int[MOST_CLASSES];
    // The product of classes i and j stands at i * MOST_CLASSES + j.
    private final int[] products = new int[MOST_PRODUCTS];

    public QuadraticForms() {
        minusD = LEAST_D;
        listForms();
        fillProducts();
    }

    public int discriminant(int d) {
        if (d < LEAST_D || d > MOST_D || d % 4 == 1 || d % 4 == 2) {
            return BAD_ARG;
        }
        minusD = d;
        listForms();
        fillProducts();
        return count;
    }

    public int classes() {
        return count;
    }

    public int reduced(int k, int part) {
        if (!isClass(k)) {
            return BAD_ARG;
        }
        switch (part) {
            case 0:
                return formA[k];
            case 1:
                return formB[k];
            case 2:
                return formC[k];
            default:
                return BAD_ARG;
        }
    }

    public int classOf(int a, int b) {
        if (a < 1 || a > MOST_FORM_ARG || b < -MOST_FORM_ARG || b > MOST_FORM_ARG) {
            return BAD_ARG;
        }
        return formClass(a, b);
    }

    public int neutral() {
        return NEUTRAL;
    }

    public int product(int i, int j) {
        if (!isClass(i) || !isClass(j)) {
            return BAD_ARG;
        }
        return products[i * MOST_CLASSES + j];
    }

    public int inverse(int i) {
        if (!isClass(i)) {
            return BAD_ARG;
        }
        // Putting -y for y turns a form into one of the inverse class.
        return formClass(formA[i], -formB[i]);
    }

    public int power(int i, int e) {
        if (!isClass(i) || e < -MOST_POWER || e > MOST_POWER) {
            return BAD_ARG;
        }
        if (e < 0) {
            int base = inverse(i);
            return repeated(base, -e);
        }
        return repeated(i, e);
    }

    public int order(int i) {
        if (!isClass(i)) {
            return BAD_ARG;
        }
        int reached = i;
        // The order of a class divides the number of classes.
        for (int e = 1; e <= count; e++) {
            if (reached == NEUTRAL) {
                return e;
            }
            reached = product(reached, i);
        }
        return NONE;
    }

    public int roots(int m) {
        if (m < 1 || m > MOST_POWER) {
            return BAD_ARG;
        }
        int found = 0;
        for (int i = 0; i < count; i++) {
            if (repeated(i, m) == NEUTRAL) {
                found++;
            }
        }
        return found;
    }

    public int squares() {
        int found = 0;
        for (int k = 0; k < count; k++) {
            if (isSquare(k)) {
                found++;
            }
        }
        return found;
    }

    public int gives(int k, int n) {
        if (!isClass(k) || !isAllowedNumber(n)) {
            return BAD_ARG;
        }
        return countPairs(k, n, false);
    }

    public int givesFirst(int k, int n) {
        if (!isClass(k) || !isAllowedNumber(n)) {
            return BAD_ARG;
        }
        return countPairs(k, n, true);
    }

    public int all(int n) {
        if (!isAllowedNumber(n)) {
            return BAD_ARG;
        }
        int sum = 0;
        for (int k = 0; k < count; k++) {
            sum += countPairs(k, n, false);
        }
        return sum;
    }

    public int least(int n) {
        if (!isAllowedNumber(n)) {
            return BAD_ARG;
        }
        for (int k = 0; k < count; k++) {
            if (countPairs(k, n, true) > 0) {
                return k;
            }
        }
        return NONE;
    }

    private boolean isClass(int k) {
        return k >= 0 && k < count;
    }

    private static boolean isAllowedNumber(int n) {
        return n >= 1 && n <= MOST_N;
    }

    // The loops go in the order in which the document numbers the classes.
    private void listForms() {
        count = 0;
        for (int a = 1; a <= MOST_A; a++) {
            for (int b = 1 - a; b <= a; b++) {
                int c = third(a, b);
                if (isReduced(a, b, c) && isPrimitive(a, b, c) && count < MOST_CLASSES) {
                    formA[count] = a;
                    formB[count] = b;
                    formC[count] = c;
                    count++;
                }
            }
        }
    }

    // Filled once for each discriminant, since power and roots take many products.
    private void fillProducts() {
        for (int i = 0; i < count; i++) {
            for (int j = 0; j < count; j++) {
                products[i * MOST_CLASSES + j] = findProduct(i, j);
            }
        }
    }

    // Follows the document's words: b runs over the middle numbers of the forms
    // (a, b, c) of class i, until (e, b, f) is of class j.
    private int findProduct(int i, int j) {
        int a = formA[i];
        // A class gives no number below the a of its reduced form.
        for (int e = formA[j]; e <= MOST_FIRST; e++) {
            if (gcd(a, e) == 1) {
                for (int t = 0; t < e; t++) {
                    int b = formB[i] + 2 * a * t;
                    if (formClass(e, b) == j) {
                        return formClass(a * e, b);
                    }
                }
            }
        }
        return NONE;
    }

    // The class of the form with these first two numbers, NONE if there is no
    // such form. A common divisor stays through all steps, so three numbers that
    // have one end at a reduced form that is not in the list.
    private int formClass(int a, int b) {
        if (third(a, b) == 0) {
            return NONE;
        }
        int first = a;
        int middle = b;
        for (int step = 0; step < MOST_STEPS; step++) {
            middle = nearest(middle, first);
            int last = third(first, middle);
            if (isReduced(first, middle, last)) {
                return indexOf(first, middle);
            }
            // Putting -y for x and x for y swaps the ends.
            first = last;
            middle = -middle;
        }
        return NONE;
    }

    // The c with b b - 4 a c = D; 0 if there is none, as no form has c = 0.
    private int third(int a, int b) {
        if (a < 1) {
            return 0;
        }
        int rest = b * b + minusD;
        return rest % (4 * a) == 0 ? rest / (4 * a) : 0;
    }

    // The number of -a + 1 to a that differs from b by a multiple of 2 a, which
    // is the step of b when x + t y is put for x.
    private static int nearest(int b, int a) {
        if (a < 1) {
            return b;
        }
        int near = b % (2 * a);
        if (near > a) {
            return near - 2 * a;
        }
        return near <= -a ? near + 2 * a : near;
    }

    private static boolean isReduced(int a, int b, int c) {
        return -a < b && b <= a && (a < c || a == c && b >= 0);
    }

    private static boolean isPrimitive(int a, int b, int c) {
        int ofTwo = gcd(a, b);
        return gcd(ofTwo, c) == 1;
    }

    private int indexOf(int a, int b) {
        for (int k = 0; k < count; k++) {
            if (formA[k] == a && formB[k] == b) {
                return k;
            }
        }
        return NONE;
    }

    private int repeated(int i, int times) {
        int reached = NEUTRAL;
        for (int step = 0; step < times; step++) {
            reached = product(reached, i);
        }
        return reached;
    }

    private boolean isSquare(int k) {
        for (int i = 0; i < count; i++) {
            if (product(i, i) == k) {
                return true;
            }
        }
        return false;
    }

    private int countPairs(int k, int n, boolean coprimeOnly) {
        int a = formA[k];
        int b = formB[k];
        int c = formC[k];
        int pairs = 0;
        for (int x = -REACH; x <= REACH; x++) {
            for (int y = -REACH; y <= REACH; y++) {
                if (a * x * x + b * x * y + c * y * y == n && (!coprimeOnly || gcd(x, y) == 1)) {
                    pairs++;
                }
            }
        }
        return pairs;
    }

    private static int gcd(int m, int n) {
        int high = m < 0 ? -m : m;
        int low = n < 0 ? -n : n;
        for (int step = 0; step < MOST_STEPS && low != 0; step++) {
            int rest = high % low;
            high = low;
            low = rest;
        }
        return high;
    }
}
