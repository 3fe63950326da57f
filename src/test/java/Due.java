import java.util.function.Supplier;

/** Counts the answers that are due, prints those that are not, and ends the test. */
final class Due {
    private final String test;
    private int right;
    private int wrong;
    private String sentence = "";

    Due(String test) {
        this.test = test;
    }

    /** Says by which words of the document the next answers are due; they are printed with those that are not. */
    void by(String words) {
        sentence = " [" + words + "]";
    }

    void is(String call, Object got, Object want) {
        if (got.equals(want)) {
            right++;
        } else {
            wrong++;
            System.out.println(test + ": " + call + " answered " + got + ", due is " + want + sentence);
        }
    }

    /** Looks at the answer of a call, or at the name of the exception that it throws. */
    void call(String call, Supplier<Object> body, Object want) {
        is(call, answer(body), want);
    }

    void fails(String call, Supplier<Object> body, Class<? extends RuntimeException> want) {
        is(call, answer(body), thrown(want.getSimpleName()));
    }

    static Object answer(Supplier<Object> body) {
        try {
            return body.get();
        } catch (RuntimeException e) {
            return thrown(e.getClass().getSimpleName());
        }
    }

    private static String thrown(String name) {
        return "throws." + name;
    }

    void end() {
        System.out.println(test + ": " + right + " answers as due, " + wrong + " not");
        if (wrong != 0 || right == 0) {
            System.exit(1);
        }
    }
}
