import java.util.NoSuchElementException;

/** Refused calls: the exception is due, and the object must be as if the call had not been made. */
final class Refusals {
    static final Class<IndexOutOfBoundsException> INDEX = IndexOutOfBoundsException.class;
    static final Class<IllegalArgumentException> ARGUMENT = IllegalArgumentException.class;
    static final Class<NoSuchElementException> MISSING = NoSuchElementException.class;
    static final Class<IllegalStateException> STATE = IllegalStateException.class;
    static final Class<UnsupportedOperationException> UNSUPPORTED = UnsupportedOperationException.class;

    /** The neighbours of the four letters, the great letters, and the ends of all characters. */
    static final char[] NO_MATERIALS = {'b', 'd', 's', 'u', 'k', 'm', 'n', 'p', 'C', 'T', 'L', 'O', '0', ' ', 0, 0xffff};

    interface Start {
        Foundry make();
    }

    interface Call {
        void on(Foundry x);
    }

    private Refusals() {
    }

    /** What lies just outside of 0 to count - 1, and far outside. */
    static int[] outside(int count) {
        return new int[] {-1, count, Integer.MIN_VALUE, Integer.MAX_VALUE};
    }

    /** The call is made on a new object; a second new object shows what must not have changed. */
    static void refused(String what, Class<? extends RuntimeException> want, Start start, Call call) {
        Foundry x = start.make();
        Due.refused(what, want, () -> call.on(x));
        Due.is("after " + what + " the object", whole(x), whole(start.make()));
    }

    /** All that can be asked of an object, by calls that change it. */
    static String whole(Foundry x) {
        StringBuilder text = new StringBuilder(Plants.digest(x));
        text.append("\nerror ").append(Due.answer(() -> x.errorPosition()));
        text.append("\nfailed ").append(Due.answer(() -> x.failedCommand()));
        text.append("\noutput ");
        for (int i = 0; i < 20; i++) {
            int at = i;
            text.append(Due.answer(() -> x.outputAt(at)).charAt(0));
        }
        int undone = 0;
        while (undone < 20 && Due.thrownBy(() -> x.undo()) == null) {
            undone++;
        }
        text.append("\nundone ").append(undone).append('\n').append(Plants.digest(x));
        text.append("\nbuffer ").append(Due.answer(() -> x.type(';'))).append(Due.answer(() -> x.runScript()));
        text.append(" error ").append(Due.answer(() -> x.errorPosition()));
        text.append("\nsnapshot ").append(Due.answer(() -> x.restore())).append('\n').append(Plants.digest(x));
        return text.toString();
    }
}
