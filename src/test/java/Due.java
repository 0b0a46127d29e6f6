/** Counts answers that are not the ones that are due; a test ends with exit code 1 if there was one. */
final class Due {
    interface Call {
        long answer();
    }

    private static int asked = 0;
    private static int wrong = 0;
    private static String sentence = "";

    private Due() {
    }

    /** What follows tests this sentence of the document; it is told with each wrong answer. */
    static void sentence(String words) {
        sentence = "[" + words + "] ";
    }

    static void is(String what, long got, long want) {
        asked++;
        if (got != want) {
            wrong++;
            System.out.println(sentence + what + " answered " + got + ", due is " + want);
        }
    }

    static void isTrue(String what, boolean got) {
        is(what, got ? 1 : 0, 1);
    }

    static void isFalse(String what, boolean got) {
        is(what, got ? 1 : 0, 0);
    }

    /** The exception must be of just that class: a subclass would be one that Java threw by itself. */
    static void fails(String what, Class<? extends RuntimeException> want, Call call) {
        asked++;
        String got;
        try {
            got = "answered " + call.answer();
        } catch (RuntimeException e) {
            if (e.getClass() == want) {
                return;
            }
            got = "threw " + e.getClass().getSimpleName();
        }
        wrong++;
        System.out.println(sentence + what + " " + got + ", due is " + want.getSimpleName());
    }

    static void noIndex(String what, Call call) {
        fails(what, IndexOutOfBoundsException.class, call);
    }

    static void noArgument(String what, Call call) {
        fails(what, IllegalArgumentException.class, call);
    }

    static void noState(String what, Call call) {
        fails(what, IllegalStateException.class, call);
    }

    static void noOperation(String what, Call call) {
        fails(what, UnsupportedOperationException.class, call);
    }

    static void end() {
        System.out.println(asked + " answers looked at, " + wrong + " not as due");
        if (wrong != 0 || asked == 0) {
            System.exit(1);
        }
    }
}
