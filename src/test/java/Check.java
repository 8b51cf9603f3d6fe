/** Compares answers with those that are due, and tells at the end whether all were right. */
final class Check {
    interface Call {
        void run();
    }

    private int wrong;
    private int checks;
    private String title = "";

    void title(String text) {
        title = text;
    }

    void same(String what, long want, long got) {
        note(want == got, what + " answered " + got + ", due is " + want);
    }

    void same(String what, double want, double got) {
        note(Double.compare(want, got) == 0, what + " answered " + got + ", due is " + want);
    }

    void same(String what, String want, String got) {
        note(want.equals(got), what + " answered " + got + ", due is " + want);
    }

    void holds(String what, boolean fact) {
        note(fact, what + " does not hold");
    }

    /** The call throws exactly this kind of exception. */
    void fails(Class<? extends RuntimeException> kind, String what, Call call) {
        Class<?> thrown = null;
        try {
            call.run();
        } catch (RuntimeException e) {
            thrown = e.getClass();
        }
        note(thrown == kind, what + " threw " + thrown + ", due is " + kind);
    }

    private void note(boolean right, String message) {
        checks++;
        if (!right) {
            wrong++;
            if (wrong <= 50) {
                System.out.println(title + ": " + message);
            }
        }
    }

    int count() {
        return checks;
    }

    boolean allRight() {
        return wrong == 0;
    }

    void end() {
        System.out.println(checks + " checks, " + wrong + " wrong");
        if (wrong != 0 || checks == 0) {
            System.exit(1);
        }
    }
}
