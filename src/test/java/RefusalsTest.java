import java.util.Arrays;
import java.util.Set;
import java.util.TreeSet;

/**
 * "No call ever throws. A refused call answers the code named and changes
 * nothing. A class that is not there answers BAD_ARG." Each call with each edge
 * of each argument, and the far ends of int, in all pairs: BAD_ARG is answered
 * just where the document asks for it, and nothing is changed.
 */
public final class RefusalsTest {
    private interface Call {
        int on(QuadraticForms x, int first, int second);
    }

    private interface Rule {
        boolean refuses(int count, int first, int second);
    }

    private static final class Face {
        final String name;
        final int parameters;
        final Rule rule;
        final Call call;

        Face(String name, int parameters, Rule rule, Call call) {
            this.name = name;
            this.parameters = parameters;
            this.rule = rule;
            this.call = call;
        }

        String told(int first, int second) {
            return name + "(" + (parameters > 0 ? first : "") + (parameters > 1 ? ", " + second : "") + ")";
        }
    }

    private static final Face[] FACES = {
        new Face("classes", 0, (n, i, j) -> false, (x, i, j) -> x.classes()),
        new Face("reduced", 2, (n, k, part) -> not(k, 0, n - 1) || not(part, 0, 2), QuadraticForms::reduced),
        new Face("classOf", 2, (n, a, b) -> not(a, 1, 1000) || not(b, -1000, 1000), QuadraticForms::classOf),
        new Face("neutral", 0, (n, i, j) -> false, (x, i, j) -> x.neutral()),
        new Face("product", 2, (n, i, j) -> not(i, 0, n - 1) || not(j, 0, n - 1), QuadraticForms::product),
        new Face("inverse", 1, (n, i, j) -> not(i, 0, n - 1), (x, i, j) -> x.inverse(i)),
        new Face("power", 2, (n, i, e) -> not(i, 0, n - 1) || not(e, -1000, 1000), QuadraticForms::power),
        new Face("order", 1, (n, i, j) -> not(i, 0, n - 1), (x, i, j) -> x.order(i)),
        new Face("roots", 1, (n, m, j) -> not(m, 1, 1000), (x, m, j) -> x.roots(m)),
        new Face("squares", 0, (n, i, j) -> false, (x, i, j) -> x.squares()),
        new Face("gives", 2, (n, k, v) -> not(k, 0, n - 1) || not(v, 1, 500), QuadraticForms::gives),
        new Face("givesFirst", 2, (n, k, v) -> not(k, 0, n - 1) || not(v, 1, 500), QuadraticForms::givesFirst),
        new Face("all", 1, (n, v, j) -> not(v, 1, 500), (x, v, j) -> x.all(v)),
        new Face("least", 1, (n, v, j) -> not(v, 1, 500), (x, v, j) -> x.least(v)),
    };

    // The squares of 46341 and 65536 wrap around, and so do products of the next
    // four with small numbers, which could bring a wrong index back into its range.
    private static final int[] WRAPPING = {46341, 65536, 65075262, 65075263, 1 << 29, 1 << 30};
    private static final int[] NAMED = {0, 1, 2, 3, 4, 5, 6, 15, 16, 17, 18, 19, 20, 65, 66, 67, 397, 398, 399,
        400, 401, 402, 403, 404, 499, 500, 501, 502, 999, 1000, 1001, 1002, 4355, 4356, 1000000, 1000001};
    private static final int BATCH = 30;

    private static final Due due = new Due("RefusalsTest");

    private static QuadraticForms object;
    private static int calls;

    public static void main(String[] args) {
        int[] edges = edges();
        for (int start : Starts.ALL) {
            due.is("classes" + Starts.name(start), Starts.make(start).classes(), Starts.classes(start));
            for (Face face : FACES) {
                allPairs(face, start, edges);
            }
            refusedDiscriminants(start, edges);
        }
        takenDiscriminants();
        due.end();
    }

    private static boolean not(int value, int least, int greatest) {
        return value < least || value > greatest;
    }

    private static int[] edges() {
        Set<Integer> all = new TreeSet<>(Arrays.asList(Integer.MIN_VALUE, Integer.MIN_VALUE + 1,
            Integer.MAX_VALUE - 1, Integer.MAX_VALUE));
        for (int[] values : new int[][] {NAMED, WRAPPING}) {
            for (int value : values) {
                all.add(value);
                all.add(-value);
            }
        }
        return all.stream().mapToInt(Integer::intValue).toArray();
    }

    private static void allPairs(Face face, int start, int[] edges) {
        calls = 0;
        int[] firsts = face.parameters > 0 ? edges : new int[] {0};
        int[] seconds = face.parameters > 1 ? edges : new int[] {0};
        for (int first : firsts) {
            for (int second : seconds) {
                one(face, start, first, second);
            }
        }
        endBatch(face.name, start);
    }

    private static void one(Face face, int start, int first, int second) {
        String told = face.told(first, second);
        beginBatch(start);
        boolean asked = face.rule.refuses(Starts.classes(start), first, second);
        try {
            int answer = face.call.on(object, first, second);
            due.is(told + Starts.name(start) + " refused", answer == Due.BAD_ARG ? 1 : 0, asked ? 1 : 0);
        } catch (Throwable thrown) {
            due.is(told + Starts.name(start) + " threw " + thrown, 1, 0);
        }
        if (calls == BATCH) {
            endBatch(told, start);
        }
    }

    private static void beginBatch(int start) {
        if (calls == 0) {
            object = Starts.make(start);
        }
        calls++;
    }

    // A snapshot for each call would take too long, so one stands for a batch.
    private static void endBatch(String last, int start) {
        if (calls > 0) {
            boolean same = Arrays.equals(Snapshot.of(object), Starts.untouched(start));
            due.is("nothing changed by " + calls + " calls up to " + last + Starts.name(start), same ? 1 : 0, 1);
        }
        calls = 0;
    }

    private static void refusedDiscriminants(int start, int[] edges) {
        for (int d : edges) {
            if (not(d, 3, 400) || d % 4 == 1 || d % 4 == 2) {
                due.refused("discriminant(" + d + ")", start, Due.BAD_ARG, x -> x.discriminant(d));
            }
        }
    }

    private static void takenDiscriminants() {
        for (int from : Starts.ALL) {
            for (int to : Starts.ALL) {
                if (to != Starts.NEW) {
                    QuadraticForms x = Starts.make(from);
                    String told = "discriminant(" + to + ")" + Starts.name(from);
                    due.is(told, x.discriminant(to), Starts.classes(to));
                    boolean same = Arrays.equals(Snapshot.of(x), Starts.untouched(to));
                    due.is("all is new after " + told, same ? 1 : 0, 1);
                }
            }
        }
    }
}
