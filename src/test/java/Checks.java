/** Counts what is as due and prints what is not. */
final class Checks {
    interface Call {
        Object answer();
    }

    private static final int MOST_PRINTED = 20;

    private final String name;
    private int passed;
    private int failed;

    Checks(String name) {
        this.name = name;
    }

    void same(String what, Object got, Object want) {
        if (want.equals(got)) {
            passed++;
            return;
        }
        failed++;
        if (failed <= MOST_PRINTED) {
            System.out.println(name + ": " + what + ": got " + got + ", due is " + want);
        }
    }

    void holds(String what, boolean holds) {
        same(what, holds, true);
    }

    void thrown(String what, Class<? extends RuntimeException> want, Call call) {
        same(what, outcome(call), want.getSimpleName());
    }

    /** The answer, or the name of what is thrown. */
    static Object outcome(Call call) {
        try {
            return call.answer();
        } catch (RuntimeException e) {
            return e.getClass().getSimpleName();
        }
    }

    void end() {
        System.out.println(name + ": " + passed + " as due, " + failed + " not");
        if (failed > 0) {
            System.exit(1);
        }
    }
}
