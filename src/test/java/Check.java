/** Counts the answers that are not as due, and tells them. */
final class Check {
    interface Call {
        Object run();
    }

    private final String name;
    private int asked;
    private int wrong;

    Check(String name) {
        this.name = name;
    }

    /** Compares by what is told, so that an int, a char and a boolean can all be due. */
    void due(String call, Object got, Object want) {
        asked++;
        if (!String.valueOf(got).equals(String.valueOf(want))) {
            wrong++;
            System.out.println(name + ": " + call + " answered " + got + ", due is " + want);
        }
    }

    void refused(String call, Class<? extends RuntimeException> want, Call run) {
        due(call, outcome(run), "throws." + want.getSimpleName());
    }

    static String outcome(Call run) {
        try {
            return String.valueOf(run.run());
        } catch (RuntimeException e) {
            return "throws." + e.getClass().getSimpleName();
        }
    }

    void end() {
        System.out.println(name + ": " + asked + " answers, " + wrong + " not as due");
        if (wrong != 0) {
            System.exit(1);
        }
    }
}
