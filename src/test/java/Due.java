/** Counts and prints the answers that are not as due. */
final class Due {
    static final int BAD_ARG = -1000000;
    static final int NONE = -1000001;
    static final int[] FAR_OUT = {Integer.MIN_VALUE, Integer.MIN_VALUE + 1, -1000001, -1000000,
        1000000, Integer.MAX_VALUE - 1, Integer.MAX_VALUE};

    private final String test;
    private int asked = 0;
    private int wrong = 0;

    Due(String test) {
        this.test = test;
    }

    void is(String call, long got, long want) {
        asked++;
        if (got != want) {
            wrong++;
            System.out.println(test + ": " + call + " answered " + got + ", due is " + want);
        }
    }

    void end() {
        System.out.println(test + ": " + asked + " answers, " + wrong + " not as due");
        if (wrong != 0) {
            System.exit(1);
        }
    }

    static QuadraticForms at(int d) {
        QuadraticForms forms = new QuadraticForms();
        forms.discriminant(d);
        return forms;
    }
}
