import java.util.Objects;

/** Counts answers that are not as due; a test ends with exit code 1 if there was one. */
final class Check {
    interface Call {
        Object answer();
    }

    private final String test;
    private String part = "";
    private int wrong = 0;
    private int asked = 0;

    Check(String test) {
        this.test = test;
    }

    void begin(String name) {
        part = name;
    }

    /** A test that throws has failed, but the ones after it still run. */
    void run(Runnable... tests) {
        for (Runnable test : tests) {
            try {
                test.run();
            } catch (RuntimeException e) {
                due("no exception", e.toString());
            }
        }
    }

    void due(Object want, Object got) {
        asked++;
        if (!Objects.equals(want, got)) {
            wrong++;
            StackTraceElement[] trace = Thread.currentThread().getStackTrace();
            System.out.println(test + ", " + part + ": answered " + got + ", due is " + want + ", at " + place(trace));
        }
    }

    /** The very class must be thrown, since the machine's own exceptions are subclasses of the document's. */
    void dueThrow(Class<? extends RuntimeException> want, Call call) {
        due(want.getSimpleName(), outcome(call));
    }

    int asked() {
        return asked;
    }

    static Object outcome(Call call) {
        try {
            return call.answer();
        } catch (RuntimeException e) {
            return e.getClass().getSimpleName();
        }
    }

    private String place(StackTraceElement[] trace) {
        for (StackTraceElement element : trace) {
            if (element.getClassName().equals(test)) {
                return "line " + element.getLineNumber();
            }
        }
        return "?";
    }

    void end() {
        System.out.println(test + ": " + asked + " answers, " + wrong + " not as due");
        if (wrong != 0 || asked == 0) {
            System.exit(1);
        }
    }
}
