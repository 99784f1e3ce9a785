/** Promises 54 to 56. */
final class UndoTest {
    public static void main(String[] args) {
        promise54UndoesEachChange();
        promise54AtMostEight();
        promise54AfterUndoing();
        promise54OnlySuccessfulChanges();
        promise54LeavesTheRest();
        promise55Save();
        promise56Restore();
        Check.finish("UndoTest");
    }

    private static ValleyBells filled() {
        ValleyBells x = new ValleyBells();
        x.addBell(0, 6000);
        x.addBell(1, 6400);
        x.addBell(2, 6700);
        x.addTone(0, 1);
        x.addTone(0, 2);
        x.addTone(1, 2);
        x.addTone(2, 2);
        x.addTone(3, 0);
        x.addTone(3, 2);
        x.addCliff(2, 7);
        x.addCliff(3, -7);
        x.save();
        x.restore();
        return x;
    }

    private static void dueUndone(String name, Refusal.Call change) {
        ValleyBells x = filled();
        String before = Valleys.state(x);
        change.on(x);
        Check.due("state changed by " + name, false, before.equals(Valleys.state(x)));
        Check.due("undo of " + name, 0, x.undo());
        Check.due("state after undo of " + name, before, Valleys.state(x));
        Check.badState("undo again after " + name, () -> x.undo());
    }

    private static void promise54UndoesEachChange() {
        dueUndone("addBell", x -> x.addBell(3, 7000));
        dueUndone("removeBell", x -> x.removeBell(1));
        dueUndone("tune", x -> x.tune(1, 5));
        dueUndone("moveBell", x -> x.moveBell(1, 3));
        dueUndone("setKey", x -> x.setKey(4, true));
        dueUndone("setTolerance", x -> x.setTolerance(4));
        dueUndone("addTone", x -> x.addTone(0, 0));
        for (int herd = 0; herd < 4; herd++) {
            int cleared = herd;
            dueUndone("clearMelody", x -> x.clearMelody(cleared));
        }
        dueUndone("run of clear and tone", x -> Check.run(x, "clear 3;tone 3 1;tone 3 1;tone 3 1"));
        dueUndone("setEntry", x -> x.setEntry(1, 4));
        dueUndone("addCliff", x -> x.addCliff(1, 1));
        dueUndone("removeCliff", x -> x.removeCliff(0));
        dueUndone("graze", x -> x.graze(0, 3));
        dueUndone("run", x -> Check.run(x, "remove 0;bell 2 5000;key 2m;clear 0;fell 0;entry 3 3"));
    }

    private static void promise54AtMostEight() {
        ValleyBells x = new ValleyBells();
        for (int k = 1; k <= 11; k++) {
            x.setKey(k, false);
        }
        for (int k = 7; k >= 0; k--) {
            Check.due("undo", k, x.undo());
            Check.due("tonic", 3 + k, x.tonic());
        }
        Check.badState("undo, the 9th", () -> x.undo());
        Check.due("tonic", 3, x.tonic());
        // Calls that change nothing count as well.
        for (int k = 0; k < 3; k++) {
            x.setKey(3, false);
            x.clearMelody(0);
        }
        Check.due("undo", 5, x.undo());
    }

    private static void promise54AfterUndoing() {
        ValleyBells x = new ValleyBells();
        for (int k = 1; k <= 9; k++) {
            x.setKey(k, false);
        }
        x.undo();
        x.undo();
        x.setKey(11, true);
        Check.due("undo", 6, x.undo());
        Check.due("tonic", 7, x.tonic());
        Check.due("undo", 5, x.undo());
        Check.due("tonic", 6, x.tonic());
        Check.due("isMinor", false, x.isMinor());
    }

    private static void promise54OnlySuccessfulChanges() {
        ValleyBells x = new ValleyBells();
        Check.badState("undo", () -> x.undo());
        for (int k = 1; k <= 8; k++) {
            x.setKey(k, false);
        }
        Check.badArgument("setKey", () -> x.setKey(12, false));
        Check.noIndex("removeBell", () -> x.removeBell(0));
        Check.badArgument("run", () -> x.run());
        Check.type(x, "key 9M;fell 0");
        Check.refused("run", UnsupportedOperationException.class, () -> x.run());
        x.writeChord(0);
        x.bestTonic(true);
        x.isConsistent();
        x.save();
        for (int k = 7; k >= 0; k--) {
            Check.due("undo", k, x.undo());
            Check.due("tonic", k, x.tonic());
        }
        Check.badState("undo", () -> x.undo());
        Check.due("run", 3, Check.run(x, "key 1M;key 2M;key 3M"));
        Check.due("undo: a run is one call", 0, x.undo());
    }

    private static void promise54LeavesTheRest() {
        ValleyBells x = new ValleyBells();
        x.addBell(0, 6000);
        x.writeBell(0);
        Check.type(x, "key 7");
        x.undo();
        Check.due("line", "0h0:C4", Check.line(x));
        Check.due("append", 6, x.append('M'));
        Check.due("run", 1, x.run());
        Check.due("tonic", 7, x.tonic());
        x.save();
        x.undo();
        x.restore();
        Check.due("undo leaves what is saved", 7, x.tonic());
    }

    private static void promise55Save() {
        ValleyBells x = filled();
        String first = Valleys.state(x);
        x.save();
        x.removeBell(0);
        x.setKey(2, true);
        x.removeCliff(1);
        x.restore();
        Check.due("state", first, Valleys.state(x));
        x.setEntry(0, 9);
        x.clearMelody(3);
        String second = Valleys.state(x);
        x.save();
        Check.due("undo: saving keeps the calls, and is none", 1, x.undo());
        x.restore();
        Check.due("state", second, Valleys.state(x));
    }

    private static void promise56Restore() {
        ValleyBells x = new ValleyBells();
        x.addBell(0, 6000);
        Check.badState("restore, nothing saved", () -> x.restore());
        Check.due("undo after a refused restore", 0, x.undo());
        ValleyBells y = filled();
        String saved = Valleys.state(y);
        for (int round = 0; round < 3; round++) {
            y.removeBell(1);
            y.setTolerance(round);
            Check.type(y, "k");
            y.restore();
            Check.due("state", saved, Valleys.state(y));
            Check.badState("undo after restore", () -> y.undo());
        }
        Check.due("the text stays", 4, y.append('x'));
        Check.badArgument("run", () -> y.run());
        y.setTolerance(3);
        Check.due("undo", 0, y.undo());
        Check.due("state", saved, Valleys.state(y));
    }
}
