/** Counts and prints the answers that are not due. */
final class Checks {
    private int asked = 0;
    private int wrong = 0;

    interface Call {
        long answer();
    }

    void due(String what, long got, long want) {
        asked++;
        if (got != want) {
            wrong++;
            System.out.println(what + " answered " + got + ", due is " + want);
        }
    }

    void dueTrue(String what, boolean got) {
        asked++;
        if (!got) {
            wrong++;
            System.out.println("it is not so that " + what);
        }
    }

    void throwsExactly(String what, Class<? extends RuntimeException> want, Call call) {
        asked++;
        String got;
        try {
            got = "answered " + call.answer();
        } catch (RuntimeException e) {
            if (e.getClass() == want) {
                return;
            }
            got = "threw " + e;
        }
        wrong++;
        System.out.println(what + " " + got + ", due is " + want.getSimpleName());
    }

    int asked() {
        return asked;
    }

    boolean isAnyWrong() {
        return wrong > 0;
    }

    void close(String name) {
        System.out.println(name + ": " + asked + " answers, " + wrong + " not due");
        if (wrong > 0) {
            System.exit(1);
        }
    }
}
