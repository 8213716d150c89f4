/** Compares answers with those that are due; end() leaves with exit code 1 if one was not as due. */
final class Due {
    interface Call {
        void run();
    }

    private static int wrong = 0;

    private Due() {
    }

    static void is(String call, long got, long want) {
        if (got != want) {
            fault(call + " answered " + got + ", due is " + want);
        }
    }

    static void is(String call, boolean got, boolean want) {
        if (got != want) {
            fault(call + " answered " + got + ", due is " + want);
        }
    }

    static void is(String call, double got, double want) {
        if (Double.compare(got, want) != 0) {
            fault(call + " answered " + got + ", due is " + want);
        }
    }

    static void is(String call, String got, String want) {
        if (!got.equals(want)) {
            fault(call + " answered " + got + ", due is " + want);
        }
    }

    /** The very class is due: a class below it is what the machine throws. */
    static void refused(String call, Class<? extends RuntimeException> want, Call made) {
        RuntimeException got = thrownBy(made);
        if (got == null || got.getClass() != want) {
            fault(call + " threw " + got + ", due is " + want.getName());
        }
    }

    static RuntimeException thrownBy(Call made) {
        try {
            made.run();
            return null;
        } catch (RuntimeException e) {
            return e;
        }
    }

    static void fault(String text) {
        wrong++;
        if (wrong <= 50) {
            System.out.println(text);
        }
    }

    static void end() {
        if (wrong > 0) {
            System.out.println(wrong + " faults");
            System.exit(1);
        }
    }
}
