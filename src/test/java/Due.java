import java.util.Arrays;
import java.util.function.ToIntFunction;

/** Counts and prints the answers that are not as due. */
final class Due {
    static final int BAD_ARG = -1000000;
    static final int NONE = -1000001;
    static final int[] FAR_OUT = {Integer.MIN_VALUE, Integer.MIN_VALUE + 1, -1000001, -1000000,
        1000000, Integer.MAX_VALUE - 1, Integer.MAX_VALUE};

    private final String test;
    private String sentence = "";
    private int asked = 0;
    private int wrong = 0;

    Due(String test) {
        this.test = test;
    }

    /** The sentence of the document that the next answers belong to. */
    void sentence(String promise, String words) {
        sentence = promise + " '" + words + "': ";
    }

    void is(String call, long got, long want) {
        asked++;
        if (got != want) {
            wrong++;
            System.out.println(test + ": " + sentence + call + " answered " + got + ", due is " + want);
        }
    }

    /** The call answers this code, and all other answers stay what they were. */
    void refused(String told, int start, int code, ToIntFunction<QuadraticForms> call) {
        QuadraticForms x = Starts.make(start);
        is(told + Starts.name(start), call.applyAsInt(x), code);
        boolean same = Arrays.equals(Snapshot.of(x), Starts.untouched(start));
        is(told + Starts.name(start) + " changed something:", same ? 0 : 1, 0);
    }

    void badArg(String told, ToIntFunction<QuadraticForms> call) {
        for (int start : Starts.ALL) {
            refused(told, start, BAD_ARG, call);
        }
    }

    void end() {
        System.out.println(test + ": " + asked + " answers, " + wrong + " not as due");
        if (wrong != 0) {
            System.exit(1);
        }
    }

    static QuadraticForms at(int d) {
        QuadraticForms forms = new QuadraticForms();
        forms.discriminant(d);
        return forms;
    }
}
