/** Compares answers with what is due, and remembers whether one was wrong. */
final class Check {
    /** A call that is due to be refused. */
    interface Call {
        void make();
    }

    private final String name;
    private int checked;
    private int wrong;

    Check(String name) {
        this.name = name;
    }

    void due(String call, long got, long want) {
        record(call, got == want, got + ", due is " + want);
    }

    void due(String call, boolean got, boolean want) {
        record(call, got == want, got + ", due is " + want);
    }

    void due(String call, double got, double want) {
        record(call, got == want, got + ", due is " + want);
    }

    void due(String call, String got, String want) {
        record(call, got.equals(want), got + ", due is " + want);
    }

    /** The call must throw an exception of exactly this class, and change nothing that digest and the others tell. */
    void refused(String call, AltimeterWatch watch, Class<? extends RuntimeException> exception, Call made) {
        String before = visible(watch);
        String thrown = "nothing";
        try {
            made.make();
        } catch (RuntimeException e) {
            thrown = e.getClass().getName();
        }
        due(call + " throws", thrown, exception.getName());
        due(call + " leaves", visible(watch), before);
    }

    void end() {
        System.out.println(name + ": " + checked + " answers, " + wrong + " wrong");
        if (wrong > 0 || checked == 0) {
            System.exit(1);
        }
    }

    private void record(String call, boolean right, String answer) {
        checked++;
        if (!right) {
            wrong++;
            System.out.println(name + ": " + call + " answered " + answer);
        }
    }

    private static String visible(AltimeterWatch watch) {
        return watch.digest() + " saved " + watch.savedStates() + " error " + watch.firstError();
    }

    /** Appends a whole text to the buffer of a watch. */
    static AltimeterWatch typed(AltimeterWatch watch, String text) {
        for (int i = 0; i < text.length(); i++) {
            watch.append(text.charAt(i));
        }
        return watch;
    }
}
