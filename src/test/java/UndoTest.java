import java.util.NoSuchElementException;

/** Promises 50 to 52: undo, save and restore. */
public final class UndoTest {
    private static final Class<NoSuchElementException> MISSING = NoSuchElementException.class;
    private static final Class<IllegalStateException> STATE = IllegalStateException.class;

    private static final Refusals.Call[] CHANGES = {x -> x.charge(0, 't', 40), x -> x.charge(0, 'o', 9),
        x -> x.setFire(0, 5), x -> x.advance(30), x -> x.skim(0), x -> x.tap(0, 1, 20), x -> x.addMould(6),
        x -> x.pour(1, 0), x -> x.breakOut(0), x -> x.pourBack(1, 2), x -> x.meltDown(0, 1),
        x -> Plants.run(x, "charge 1 c5;fire 1 5;mould 3;wait 100")};

    public static void main(String[] args) {
        everyChangeIsUndone();
        eightAreKept();
        whatIsNoChange();
        undoLeavesTheRest();
        redoneAfterUndo();
        snapshots();
        Due.end();
    }

    private static Foundry changed(int changes) {
        Foundry x = new Foundry();
        for (int i = 0; i < changes; i++) {
            CHANGES[i].on(x);
        }
        return x;
    }

    private static void everyChangeIsUndone() {
        for (int i = 0; i < CHANGES.length; i++) {
            Foundry x = changed(i + 1);
            x.undo();
            Due.is("50 undo of change " + i, Plants.digest(x), Plants.digest(changed(i)));
            CHANGES[i].on(x);
            Due.is("50 change " + i + " again", Plants.digest(x), Plants.digest(changed(i + 1)));
            Due.is("50 isConsistent", x.isConsistent(), true);
        }
    }

    private static Foundry charged(int charges) {
        Foundry x = new Foundry();
        for (int i = 0; i < charges; i++) {
            x.charge(i % 3, "ctlo".charAt(i % 4), i + 1);
        }
        return x;
    }

    private static void eightAreKept() {
        Due.refused("50 nothing to undo", MISSING, () -> new Foundry().undo());
        Foundry x = charged(20);
        for (int i = 0; i < 8; i++) {
            Due.is("50 undo", x.undo(), 7 - i);
            Due.is("50 the state before", Plants.digest(x), Plants.digest(charged(19 - i)));
        }
        Due.refused("50 no ninth", MISSING, () -> x.undo());
        Due.is("50 the state stays", Plants.digest(x), Plants.digest(charged(12)));
    }

    private static void whatIsNoChange() {
        Foundry x = new Foundry();
        x.setFire(1, 0);
        x.mouldCount();
        x.isConsistent();
        x.renderFurnace(0);
        x.type('a');
        x.save();
        Due.thrownBy(() -> x.charge(0, 'c', 0));
        Due.thrownBy(() -> x.runScript());
        Plants.type(x, "wait 1;skim 0");
        Due.thrownBy(() -> x.runScript());
        Due.is("50 the same state is a change", x.undo(), 0);
        Due.refused("50 the others are none", MISSING, () -> x.undo());
        Plants.run(x, "wait 1;wait 2;wait 3");
        Due.is("50 a script is one change", x.undo(), 0);
        Due.is("50 it is undone whole", x.time(), 0);
        // A script that fails must not push out the oldest of eight changes.
        for (int i = 0; i < 8; i++) {
            x.advance(1);
        }
        Plants.type(x, "wait 1;skim 0");
        Due.thrownBy(() -> x.runScript());
        Due.thrownBy(() -> x.skim(0));
        for (int i = 0; i < 8; i++) {
            Due.is("50 eight of eight", x.undo(), 7 - i);
            Due.is("50 the time", x.time(), 7 - i);
        }
    }

    private static void undoLeavesTheRest() {
        Foundry x = new Foundry();
        x.charge(0, 'c', 3);
        Due.thrownBy(() -> x.runScript());
        Plants.type(x, "skim 0");
        Due.thrownBy(() -> x.runScript());
        x.renderFurnace(0);
        x.type('w');
        x.undo();
        Due.is("50 the buffer", x.type('a'), 2);
        Due.is("50 errorPosition", x.errorPosition(), 0);
        Due.is("50 failedCommand", x.failedCommand(), 0);
        Due.is("50 the output text", Plants.output(x, 5), "c3@20");
        Due.refused("50 slagRate", ArithmeticException.class, () -> x.slagRate());
    }

    private static void redoneAfterUndo() {
        Foundry x = new Foundry();
        for (int i = 1; i <= 5; i++) {
            x.advance(i);
        }
        Due.is("50 undo of 5", x.undo(), 4);
        Due.is("50 undo of 4", x.undo(), 3);
        x.advance(100);
        Due.is("50 time", x.time(), 106);
        Due.is("50 undo of 100", x.undo(), 3);
        Due.is("50 time after it", x.time(), 6);
        Due.is("50 undo of 3", x.undo(), 2);
        Due.is("50 time at last", x.time(), 3);
    }

    private static void snapshots() {
        Foundry x = Plants.withIngot(0, 30, 10, 0);
        Due.refused("52 no snapshot", STATE, () -> x.restore());
        Due.is("51 save", x.save(), 1);
        String saved = Plants.digest(x);
        x.meltDown(0, 1);
        x.setFire(2, 2);
        x.addMould(3);
        x.advance(9);
        Due.is("51 save changes nothing else", x.undo(), 7);
        Due.thrownBy(() -> x.runScript());
        x.type('a');
        x.renderFurnace(1);
        Due.is("52 restore", x.restore(), 1);
        Due.is("52 the state", Plants.digest(x), saved);
        Due.refused("52 nothing to undo", MISSING, () -> x.undo());
        Due.is("52 the buffer", x.type('b'), 2);
        Due.is("52 errorPosition", x.errorPosition(), 0);
        Due.is("52 the output text", x.outputAt(0), 't');
        x.charge(0, 'c', 1);
        Due.is("52 a change after it", x.undo(), 0);
        x.meltDown(0, 0);
        Due.is("52 the snapshot is kept", x.restore(), 1);
        Due.is("52 the state again", Plants.digest(x), saved);
        x.meltDown(0, 0);
        Due.is("51 a later snapshot", x.save(), 0);
        x.undo();
        Due.is("51 undo leaves the snapshot", x.restore(), 0);
        Due.is("52 the later one", x.furnaceTotal(0), 40);
    }
}
