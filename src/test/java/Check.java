/** Compares answers with what is due, and remembers whether one was wrong. */
final class Check {
    /** A call that is due to be refused. */
    interface Call {
        void make();
    }

    private final String name;
    private int checked;
    private int wrong;
    private int sentences;

    Check(String name) {
        this.name = name;
    }

    /** A test of its own for one sentence of the document; what goes wrong in it is told under that sentence. */
    void sentence(String sentence, Runnable test) {
        int checkedBefore = checked;
        int wrongBefore = wrong;
        String thrown = "nothing";
        try {
            test.run();
        } catch (RuntimeException e) {
            thrown = e.toString();
        }
        due("the test throws", thrown, "nothing");
        due("the test checks something", checked > checkedBefore + 1, true);
        sentences++;
        if (wrong > wrongBefore) {
            System.out.println(name + ": broken is \"" + sentence + "\"");
        }
    }

    void due(String call, long got, long want) {
        record(call, got == want, got + ", due is " + want);
    }

    void due(String call, boolean got, boolean want) {
        record(call, got == want, got + ", due is " + want);
    }

    void due(String call, double got, double want) {
        record(call, got == want, got + ", due is " + want);
    }

    void due(String call, String got, String want) {
        record(call, got.equals(want), got + ", due is " + want);
    }

    /** The call must throw an exception of exactly this class, and change nothing that digest and the others tell. */
    void refused(String call, AltimeterWatch watch, Class<? extends RuntimeException> exception, Call made) {
        String before = visible(watch);
        due(call + " throws", thrownBy(made), exception.getName());
        due(call + " leaves", visible(watch), before);
    }

    /** The name of the exception's class, or "nothing". */
    static String thrownBy(Call made) {
        try {
            made.make();
        } catch (RuntimeException e) {
            return e.getClass().getName();
        }
        return "nothing";
    }

    void end() {
        String told = sentences > 0 ? sentences + " sentences, " : "";
        System.out.println(name + ": " + told + checked + " answers, " + wrong + " wrong");
        if (wrong > 0 || checked == 0) {
            System.exit(1);
        }
    }

    private void record(String call, boolean right, String answer) {
        checked++;
        if (!right) {
            wrong++;
            System.out.println(name + ": " + call + " answered " + answer);
        }
    }

    private static String visible(AltimeterWatch watch) {
        return watch.digest() + " saved " + watch.savedStates() + " error " + watch.firstError();
    }

    /** Appends a whole text to the buffer of a watch. */
    static AltimeterWatch typed(AltimeterWatch watch, String text) {
        for (int i = 0; i < text.length(); i++) {
            watch.append(text.charAt(i));
        }
        return watch;
    }
}
