import java.util.ArrayList;
import java.util.List;

/**
 * Every discriminant, against answers worked out in other ways: classes by
 * going through the substitutions, products by the formula for any two forms,
 * counts by a wide search, and the theorems on class numbers and on all(n).
 */
public final class OracleTest {
    private static final int MOST = 1000;
    // Below the 512 calls that an object is promised for.
    private static final int CALLS = 500;
    private static final Due due = new Due("OracleTest");

    private static int d;
    private static QuadraticForms forms;
    private static int left = 0;

    private static List<int[]> list;
    // classAt[a][b + MOST], NONE where there is no form.
    private static final int[][] classAt = new int[MOST + 1][2 * MOST + 1];
    private static int[][] products;

    public static void main(String[] args) {
        for (d = 3; d <= 400; d++) {
            if (d % 4 == 0 || d % 4 == 3) {
                left = 0;
                fillList();
                fillClasses();
                fillProducts();
                lookAtForms();
                lookAtClassOf();
                lookAtGroup();
                lookAtRootsAndSquares();
                lookAtNumbers();
            }
        }
        due.end();
    }

    private static QuadraticForms forms() {
        if (left == 0) {
            forms = Due.at(d);
            left = CALLS;
        }
        left--;
        return forms;
    }

    private static void is(String call, long got, long want) {
        due.is(call + " at " + d, got, want);
    }

    private static void fillList() {
        list = new ArrayList<>();
        for (int a = 1; a <= 20; a++) {
            for (int b = -20; b <= 20; b++) {
                for (int c = 1; c <= 120; c++) {
                    boolean form = b * b - 4 * a * c == -d && !common(a, b, c);
                    boolean reduced = -a < b && b <= a && a <= c && (a != c || b >= 0);
                    if (form && reduced) {
                        list.add(new int[] {a, b, c});
                    }
                }
            }
        }
    }

    private static boolean common(int a, int b, int c) {
        for (int t = 2; t <= Math.max(Math.abs(a), Math.max(Math.abs(b), Math.abs(c))); t++) {
            if (a % t == 0 && b % t == 0 && c % t == 0) {
                return true;
            }
        }
        return false;
    }

    // Each form of class k comes from the reduced one by some p, q, r, s; p and r
    // settle a, and b up to a multiple of 2 a.
    private static void fillClasses() {
        for (int[] row : classAt) {
            java.util.Arrays.fill(row, Due.NONE);
        }
        for (int k = 0; k < list.size(); k++) {
            int[] f = list.get(k);
            for (int p = -40; p <= 40; p++) {
                for (int r = -40; r <= 40; r++) {
                    long[] e = extended(p, r);
                    int a = f[0] * p * p + f[1] * p * r + f[2] * r * r;
                    if (e[0] == 1 && a <= MOST) {
                        long s = e[1];
                        long q = -e[2];
                        long b = 2 * f[0] * p * q + f[1] * (p * s + q * r) + 2 * f[2] * r * s;
                        fillRow(k, a, b);
                    }
                }
            }
        }
    }

    private static void fillRow(int k, int a, long b) {
        for (long m = Math.floorMod(b + MOST, 2L * a); m <= 2 * MOST; m += 2 * a) {
            classAt[a][(int) m] = k;
        }
    }

    // g, u, v with u m + v n = g, the greatest common divisor.
    private static long[] extended(long m, long n) {
        long g = m, u = 1, v = 0, h = n, w = 0, z = 1;
        while (h != 0) {
            long t = g / h, next = g - t * h;
            g = h;
            h = next;
            next = u - t * w;
            u = w;
            w = next;
            next = v - t * z;
            v = z;
            z = next;
        }
        return g < 0 ? new long[] {-g, -u, -v} : new long[] {g, u, v};
    }

    private static void fillProducts() {
        int count = list.size();
        products = new int[count][count];
        for (int i = 0; i < count; i++) {
            for (int j = 0; j < count; j++) {
                products[i][j] = composed(list.get(i), list.get(j));
            }
        }
    }

    // Dirichlet's composition for any two forms, whether or not a and e have a common divisor.
    private static int composed(int[] f, int[] h) {
        long[] two = extended(f[0], h[0]);
        long half = (f[1] + h[1]) / 2;
        long[] three = extended(two[0], half);
        long g = three[0];
        long u = three[1] * two[1];
        long v = three[1] * two[2];
        long w = three[2];
        long a = f[0] * h[0] / (g * g);
        long b = (u * f[0] * h[1] + v * h[0] * f[1] + w * ((long) f[1] * h[1] - d) / 2) / g;
        return classAt[(int) a][(int) Math.floorMod(b, 2 * a) + MOST];
    }

    private static void lookAtForms() {
        is("discriminant", new QuadraticForms().discriminant(d), list.size());
        is("class number", list.size(), classNumber());
        is("classes()", forms().classes(), list.size());
        is("neutral()", forms().neutral(), classAt[1][MOST + d % 2]);
        for (int k = 0; k < list.size(); k++) {
            for (int part = 0; part < 3; part++) {
                is("reduced(" + k + ", " + part + ")", forms().reduced(k, part), list.get(k)[part]);
            }
        }
        is("reduced past the end", forms().reduced(list.size(), 0), Due.BAD_ARG);
    }

    private static void lookAtClassOf() {
        boolean whole = d == 3 || d == 4 || d == 63 || d == 243 || d == 311 || d == 384 || d == 399 || d == 400;
        for (int a = 1; a <= MOST; a++) {
            boolean row = whole || a <= 40 || a >= MOST - 1;
            for (int b = -MOST; row && b <= MOST; b++) {
                if (whole || Math.abs(b) <= 90 || Math.abs(b) >= MOST - 1) {
                    is("classOf(" + a + ", " + b + ")", forms().classOf(a, b), classAt[a][b + MOST]);
                }
            }
        }
    }

    private static void lookAtGroup() {
        int count = list.size();
        for (int i = 0; i < count; i++) {
            int inverse = -1;
            for (int j = 0; j < count; j++) {
                is("product(" + i + ", " + j + ")", forms().product(i, j), products[i][j]);
                inverse = products[i][j] == 0 ? j : inverse;
            }
            is("inverse(" + i + ")", forms().inverse(i), inverse);
            lookAtPowers(i, inverse);
        }
    }

    private static void lookAtPowers(int i, int inverse) {
        int up = 0;
        int down = 0;
        int order = 0;
        for (int e = 0; e <= MOST; e++) {
            is("power(" + i + ", " + e + ")", forms().power(i, e), up);
            is("power(" + i + ", -" + e + ")", forms().power(i, -e), down);
            up = products[up][i];
            down = products[down][inverse];
            order = order == 0 && up == 0 ? e + 1 : order;
        }
        is("order(" + i + ")", forms().order(i), order);
    }

    private static void lookAtRootsAndSquares() {
        int count = list.size();
        int[] reached = new int[count];
        for (int m = 1; m <= MOST; m++) {
            int roots = 0;
            for (int i = 0; i < count; i++) {
                reached[i] = products[reached[i]][i];
                roots += reached[i] == 0 ? 1 : 0;
            }
            is("roots(" + m + ")", forms().roots(m), roots);
        }
        boolean[] square = new boolean[count];
        int squares = 0;
        for (int i = 0; i < count; i++) {
            squares += square[products[i][i]] ? 0 : 1;
            square[products[i][i]] = true;
        }
        is("squares()", forms().squares(), squares);
    }

    private static void lookAtNumbers() {
        int[] all = new int[501];
        int[] least = new int[501];
        java.util.Arrays.fill(least, Due.NONE);
        for (int k = list.size() - 1; k >= 0; k--) {
            int[] pairs = new int[501];
            int[] first = new int[501];
            countPairs(list.get(k), pairs, first);
            for (int n = 1; n <= 500; n++) {
                all[n] += pairs[n];
                least[n] = first[n] > 0 ? k : least[n];
                is("gives(" + k + ", " + n + ")", forms().gives(k, n), pairs[n]);
                is("givesFirst(" + k + ", " + n + ")", forms().givesFirst(k, n), first[n]);
            }
        }
        boolean fundamental = conductor() == 1;
        for (int n = 1; n <= 500; n++) {
            is("all(" + n + ")", forms().all(n), all[n]);
            is("least(" + n + ")", forms().least(n), least[n]);
            if (fundamental) {
                is("theorem on all(" + n + ")", all[n], units(d) * sumOverDivisors(n));
            }
        }
    }

    private static void countPairs(int[] f, int[] pairs, int[] first) {
        for (int x = -60; x <= 60; x++) {
            for (int y = -60; y <= 60; y++) {
                int n = f[0] * x * x + f[1] * x * y + f[2] * y * y;
                if (n >= 1 && n <= 500) {
                    pairs[n]++;
                    first[n] += common(x, y, 0) ? 0 : 1;
                }
            }
        }
    }

    private static int units(int size) {
        return size == 3 ? 6 : size == 4 ? 4 : 2;
    }

    private static int sumOverDivisors(int n) {
        int sum = 0;
        for (int m = 1; m <= n; m++) {
            sum += n % m == 0 ? kronecker(-d, m) : 0;
        }
        return sum;
    }

    // The greatest f for which D / (f f) is a discriminant too.
    private static int conductor() {
        int found = 1;
        for (int f = 2; f * f <= d; f++) {
            int rest = d / (f * f);
            found = d % (f * f) == 0 && (rest % 4 == 0 || rest % 4 == 3) ? f : found;
        }
        return found;
    }

    // Dirichlet's formula, and the one for a discriminant that has a square factor.
    private static int classNumber() {
        int f = conductor();
        int base = d / (f * f);
        long sum = 0;
        for (int k = 1; k < base; k++) {
            sum -= (long) k * kronecker(-base, k);
        }
        long number = sum * units(base) / (2L * base) * f;
        for (int p = 2; p <= f; p++) {
            if (f % p == 0 && isPrime(p)) {
                number = number / p * (p - kronecker(-base, p));
            }
        }
        return (int) (number * units(d) / units(base));
    }

    private static boolean isPrime(int p) {
        for (int t = 2; t < p; t++) {
            if (p % t == 0) {
                return false;
            }
        }
        return p > 1;
    }

    // Kronecker's symbol for m above 0, by the primes of m.
    private static int kronecker(int top, int m) {
        int sign = 1;
        int rest = m;
        for (int p = 2; rest > 1; p++) {
            while (rest % p == 0) {
                rest /= p;
                sign *= ofPrime(top, p);
            }
        }
        return sign;
    }

    private static int ofPrime(int top, int p) {
        if (p == 2) {
            int eight = Math.floorMod(top, 8);
            return eight % 2 == 0 ? 0 : eight == 1 || eight == 7 ? 1 : -1;
        }
        int residue = Math.floorMod(top, p);
        for (int t = 1; t < p && residue != 0; t++) {
            if (t * t % p == residue) {
                return 1;
            }
        }
        return residue == 0 ? 0 : -1;
    }
}
