import java.util.concurrent.Callable;

/** Compares answers with what is due, and prints and counts those that differ. */
final class Checks {
    private int wrong;
    private String promise = "";

    void promise(String name) {
        promise = name;
    }

    void due(String call, Object got, Object want) {
        if (!got.equals(want)) {
            wrong++;
            System.out.println(promise + ": " + call + " answered " + got + ", due is " + want);
        }
    }

    void answers(Object want, String call, Callable<?> run) {
        due(call, outcome(run), want);
    }

    void refuses(Class<? extends Exception> want, String call, Callable<?> run) {
        due(call, outcome(run), want.getSimpleName());
    }

    /** The answer of a call, or the name of what it throws. */
    static Object outcome(Callable<?> run) {
        try {
            return run.call();
        } catch (Exception e) {
            return e.getClass().getSimpleName();
        }
    }

    void end() {
        if (wrong > 0) {
            System.out.println(wrong + " answers are wrong");
            System.exit(1);
        }
    }

    /** A VERSION as the program takes it: the first letter in the lowest 8 bits. */
    static long v(String text) {
        long version = 0;
        for (int at = 0; at < text.length(); at++) {
            version |= (long) text.charAt(at) << 8 * at;
        }
        return version;
    }
}
