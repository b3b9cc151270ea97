import java.util.Arrays;

/** What an object answers, to see whether a call has changed anything. */
final class Snapshot {
    // At 19 classes, the most that there are; an object is promised for 512.
    static final int MOST_CALLS = 480;

    static int[] of(QuadraticForms x) {
        int[] answers = new int[MOST_CALLS];
        int count = Math.min(x.classes(), 19);
        int at = 0;
        answers[at++] = count;
        answers[at++] = x.neutral();
        answers[at++] = x.squares();
        answers[at++] = x.roots(2);
        answers[at++] = x.all(500);
        answers[at++] = x.least(3);
        answers[at++] = x.classOf(1, 0);
        answers[at++] = x.classOf(1, 1);
        answers[at++] = x.reduced(count, 0);
        for (int i = 0; i < count; i++) {
            for (int part = 0; part < 3; part++) {
                answers[at++] = x.reduced(i, part);
            }
            answers[at++] = x.inverse(i);
            answers[at++] = x.order(i);
            for (int j = 0; j < count; j++) {
                answers[at++] = x.product(i, j);
            }
        }
        answers[at++] = x.power(count - 1, -3);
        answers[at++] = x.gives(count - 1, 500);
        answers[at++] = x.givesFirst(count - 1, 500);
        return Arrays.copyOf(answers, at);
    }

    private Snapshot() {
    }
}
