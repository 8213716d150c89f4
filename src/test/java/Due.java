/** Compares answers with those that are due; end() leaves with exit code 1 if one was not as due. */
final class Due {
    interface Call {
        void run();
    }

    interface Asked {
        Object ask();
    }

    private static final class Answer {
        private String text;
    }

    private static int wrong = 0;
    private static String subject = "";

    private Due() {
    }

    /** Every fault from here on is told with this in front of it. */
    static void about(String what) {
        subject = what;
    }

    static void is(String call, long got, long want) {
        if (got != want) {
            fault(call + " answered " + got + ", due is " + want);
        }
    }

    static void is(String call, boolean got, boolean want) {
        if (got != want) {
            fault(call + " answered " + got + ", due is " + want);
        }
    }

    static void is(String call, double got, double want) {
        if (Double.compare(got, want) != 0) {
            fault(call + " answered " + got + ", due is " + want);
        }
    }

    static void is(String call, String got, String want) {
        if (!got.equals(want)) {
            fault(call + " answered " + got + ", due is " + want);
        }
    }

    /** The very class is due: a class below it is what the machine throws. */
    static void refused(String call, Class<? extends RuntimeException> want, Call made) {
        RuntimeException got = thrownBy(made);
        if (got == null || got.getClass() != want) {
            fault(call + " threw " + got + ", due is " + want.getName());
        }
    }

    static RuntimeException thrownBy(Call made) {
        try {
            made.run();
            return null;
        } catch (RuntimeException e) {
            return e;
        }
    }

    /** What is answered, or the simple name of what is thrown. */
    static String answer(Asked asked) {
        Answer answer = new Answer();
        RuntimeException thrown = thrownBy(() -> answer.text = "" + asked.ask());
        return thrown == null ? answer.text : thrown.getClass().getSimpleName();
    }

    static void fault(String text) {
        wrong++;
        if (wrong <= 50) {
            System.out.println(subject + text);
        }
    }

    static void end() {
        if (wrong > 0) {
            System.out.println(wrong + " faults");
            System.exit(1);
        }
    }
}
