import java.util.concurrent.Callable;

/** Counts and prints the answers that are not due. */
final class Check {
    private static int wrong = 0;
    private static int asked = 0;

    private Check() {
    }

    static void due(String what, Object want, Callable<?> call) {
        Object got = answer(call);
        asked++;
        if (!want.equals(got)) {
            wrong++;
            System.out.println(what + " answered " + got + ", due is " + want);
        }
    }

    /** An exception counts as the answer "throws." and its name. */
    static Object answer(Callable<?> call) {
        try {
            return call.call();
        } catch (Exception e) {
            return e instanceof ArrayIndexOutOfBoundsException || e instanceof NullPointerException
                    ? "the machine threw " + e : "throws." + e.getClass().getSimpleName();
        }
    }

    static void end() {
        System.out.println(asked + " answers asked, " + wrong + " wrong");
        if (wrong > 0) {
            System.exit(1);
        }
    }
}
