/** The boundary cases of promises 54 to 56, a test for each sentence that names one. */
final class UndoBoundsTest {
    private static final Refusal.Call[] CHANGES = {x -> x.addBell(2, 6500), x -> x.removeBell(1), x -> x.tune(1, 9),
        x -> x.moveBell(1, 2), x -> x.setKey(3, false), x -> x.setTolerance(9), x -> x.addTone(1, 0),
        x -> x.clearMelody(0), x -> x.setEntry(1, 9), x -> x.addCliff(1, 1), x -> x.removeCliff(0),
        x -> x.graze(3, 9), x -> Check.run(x, "tune 0+1;fell 1")};
    private static final String[] CHANGE_NAMES = {"addBell", "removeBell", "tune", "moveBell", "setKey",
        "setTolerance", "addTone", "clearMelody", "setEntry", "addCliff", "removeCliff", "graze", "run"};
    /** These succeed in a busy valley, and nothing is different after them. */
    private static final Refusal.Call[] IDLE = {x -> x.tune(1, 0), x -> x.moveBell(1, 3), x -> x.setKey(10, true),
        x -> x.setTolerance(7), x -> x.clearMelody(1), x -> x.setEntry(0, 4), x -> x.graze(0, 1),
        x -> Check.run(x, "tune 0+0"), x -> Check.run(x, "cliff 1+1;fell 2")};
    private static final String[] IDLE_NAMES = {"tune by 0", "moveBell to its herd", "setKey as it is",
        "setTolerance as it is", "clearMelody of an empty one", "setEntry as it is", "graze of a bell at 3600",
        "run of a tune by 0", "run that takes back what it did"};

    public static void main(String[] args) {
        promise54NothingToUndo();
        promise54EachChangingMethod();
        promise54AlsoIfNothingIsDifferent();
        promise54EightCalls();
        promise54MostRecentFirst();
        promise54TheEightWrapAround();
        promise54UndoneCallsAreGone();
        promise54RefusedCallsDoNotCount();
        promise54OtherCallsDoNotCount();
        promise54RunIsOneCall();
        promise54TheRestStays();
        promise55NothingAndEverything();
        promise55Replaces();
        promise55IsACopy();
        promise55IsNoChangingCall();
        promise56NothingSaved();
        promise56StaysSaved();
        promise56NoCallCanBeUndone();
        promise56IsNoChangingCall();
        promise56TheRestStays();
        Check.finish("UndoBoundsTest");
    }

    // ---- undo

    /** "if no call can be undone" */
    private static void promise54NothingToUndo() {
        Refusal.badStateIn(Valleys::empty, "undo, a new object", x -> x.undo());
        Refusal.badStateIn(UndoBoundsTest::allUndone, "undo, all calls undone", x -> x.undo());
        Refusal.badStateIn(UndoBoundsTest::restored, "undo after restore", x -> x.undo());
    }

    private static ValleyBells allUndone() {
        ValleyBells x = Valleys.full();
        for (int k = 7; k >= 0; k--) {
            Check.due("undo", k, x.undo());
        }
        return x;
    }

    private static ValleyBells restored() {
        ValleyBells x = Valleys.full();
        x.restore();
        return x;
    }

    /** "Each successful call of them can be undone": one call of each changing method, and back */
    private static void promise54EachChangingMethod() {
        for (int k = 0; k < CHANGES.length; k++) {
            ValleyBells x = Valleys.busyWithoutText();
            String before = Valleys.answers(x);
            CHANGES[k].on(x);
            Check.due("state is as before " + CHANGE_NAMES[k], false, before.equals(Valleys.answers(x)));
            ValleyBells y = Valleys.busyWithoutText();
            CHANGES[k].on(y);
            Check.due("undo of " + CHANGE_NAMES[k], 7, y.undo());
            Check.due("all questions after undo of " + CHANGE_NAMES[k], before, Valleys.answers(y));
        }
    }

    /** "also if nothing is different after it" */
    private static void promise54AlsoIfNothingIsDifferent() {
        for (int k = 0; k < IDLE.length; k++) {
            ValleyBells x = Valleys.busyWithoutText();
            if (IDLE_NAMES[k].startsWith("graze")) {
                x.removeBell(4);
            }
            x.save();
            x.restore();
            String before = Valleys.state(x);
            IDLE[k].on(x);
            Check.due("state after " + IDLE_NAMES[k], before, Valleys.state(x));
            Check.due("undo of " + IDLE_NAMES[k], 0, x.undo());
            Check.due("state after undo of " + IDLE_NAMES[k], before, Valleys.state(x));
            Check.badState("undo again after " + IDLE_NAMES[k], () -> x.undo());
        }
    }

    /** "at most the 8 most recent ones": from 1 call to 20 */
    private static void promise54EightCalls() {
        for (int calls = 1; calls <= 20; calls++) {
            ValleyBells x = new ValleyBells();
            for (int k = 1; k <= calls; k++) {
                x.setTolerance(k);
            }
            int most = Math.min(calls, 8);
            for (int k = 1; k <= most; k++) {
                Check.due("undo " + k + " of " + calls, most - k, x.undo());
                Check.due("tolerance", calls == k ? 10 : calls - k, x.tolerance());
            }
            Check.badState("undo " + (most + 1) + " of " + calls, () -> x.undo());
            Check.due("tolerance after a refusal", calls > 8 ? calls - 8 : 10, x.tolerance());
        }
    }

    /** "the most recent one first": calls of different methods, whose effects lie on one another */
    private static void promise54MostRecentFirst() {
        ValleyBells x = new ValleyBells();
        String[] states = new String[9];
        Refusal.Call[] calls = {y -> y.addBell(0, 6000), y -> y.addBell(1, 6100), y -> y.addTone(0, 1),
            y -> y.addTone(0, 0), y -> y.removeBell(0), y -> y.tune(0, 5), y -> y.clearMelody(0),
            y -> y.removeBell(0)};
        for (int k = 0; k < 8; k++) {
            states[k] = Valleys.state(x);
            calls[k].on(x);
        }
        for (int k = 7; k >= 0; k--) {
            Check.due("undo of call " + k, k, x.undo());
            Check.due("state before call " + k, states[k], Valleys.state(x));
        }
    }

    /** Many times through all places in which the 8 calls are kept, with undoing in between. */
    private static void promise54TheEightWrapAround() {
        for (int back = 1; back <= 8; back++) {
            ValleyBells x = new ValleyBells();
            int[] kept = new int[200];
            int count = 0;
            int oldest = 0;
            for (int k = 0; k < 120; k++) {
                kept[count] = x.tolerance();
                count++;
                oldest = Math.max(oldest, count - 8);
                x.setTolerance(k % 51);
                boolean isBack = k % 11 == 10;
                for (int times = 0; isBack && times < back; times++) {
                    count--;
                    Check.due("undo, wrapped around", count - oldest, x.undo());
                    Check.due("tolerance, wrapped around", kept[count], x.tolerance());
                }
            }
        }
    }

    /** "that has not been undone" */
    private static void promise54UndoneCallsAreGone() {
        ValleyBells x = new ValleyBells();
        x.setKey(1, false);
        x.setKey(2, false);
        Check.due("undo", 1, x.undo());
        x.setKey(3, false);
        Check.due("undo", 1, x.undo());
        Check.due("tonic", 1, x.tonic());
        Check.due("undo", 0, x.undo());
        Check.due("tonic", 0, x.tonic());
        Check.badState("undo", () -> x.undo());
        x.setKey(4, false);
        Check.due("undo after a refusal", 0, x.undo());
        Check.due("tonic", 0, x.tonic());
    }

    /** "Each successful call": refused ones neither count nor cost the oldest of 8. */
    private static void promise54RefusedCallsDoNotCount() {
        Refusal.Call[] refused = {x -> x.addBell(4, 0), x -> x.removeBell(12), x -> x.tune(12, 0),
            x -> x.moveBell(12, 0), x -> x.graze(4, 1), x -> x.setKey(12, true), x -> x.setTolerance(51),
            x -> x.addTone(4, 0), x -> x.clearMelody(4), x -> x.setEntry(4, 0), x -> x.addCliff(0, 0),
            x -> x.removeCliff(4), x -> x.run(), x -> Check.run(x, "key 1m;fell 4")};
        for (int calls = 0; calls <= 9; calls++) {
            ValleyBells x = new ValleyBells();
            for (int k = 1; k <= calls; k++) {
                x.setTolerance(k);
                for (Refusal.Call call : refused) {
                    Check.due("a call that is refused", false, answers(x, call));
                }
            }
            int most = Math.min(calls, 8);
            for (int k = 1; k <= most; k++) {
                Check.due("undo " + k + " of " + calls, most - k, x.undo());
                Check.due("tolerance", calls == k ? 10 : calls - k, x.tolerance());
            }
            Check.badState("undo, no more of " + calls, () -> x.undo());
        }
    }

    private static boolean answers(ValleyBells x, Refusal.Call call) {
        try {
            call.on(x);
            return true;
        } catch (RuntimeException e) {
            return false;
        }
    }

    /** "The changing methods are ..": append, the output, save, and undo itself are not among them. */
    private static void promise54OtherCallsDoNotCount() {
        ValleyBells x = Valleys.busyWithoutText();
        x.append('k');
        x.writeBell(0);
        x.writeChord(0);
        x.save();
        x.isConsistent();
        for (int k = 6; k >= 0; k--) {
            Check.due("undo", k, x.undo());
        }
        Check.badState("undo", () -> x.undo());
    }

    /** A run of 8 commands costs one of the 8 calls. */
    private static void promise54RunIsOneCall() {
        ValleyBells x = new ValleyBells();
        for (int k = 1; k <= 7; k++) {
            x.setTolerance(k);
        }
        Check.due("run", 8, Check.run(x, "key 1M;key 2M;key 3M;key 4M;key 5M;key 6M;key 7M;key 8m"));
        Check.due("undo of run", 7, x.undo());
        Check.due("state after undo of run", "0false7 m0 m0 m0 m0", Valleys.state(x));
        Check.due("undo", 6, x.undo());
        Check.due("tolerance", 6, x.tolerance());
    }

    /** "except the text buffer, the error position, the failed command and the output line" */
    private static void promise54TheRestStays() {
        ValleyBells x = Valleys.busy();
        Check.due("undo", 6, x.undo());
        Check.due("errorPosition after undo", 4, x.errorPosition());
        Check.due("failedCommand after undo", 1, x.failedCommand());
        Check.due("line after undo", "1h3:E4+12!", Check.line(x));
        Check.due("append after undo", 6, x.append('m'));
        Check.due("run after undo", 1, x.run());
        Check.due("tonic", 7, x.tonic());
        x.undo();
        Check.due("append after undo of run: the text does not come back", 1, x.append('k'));
        ValleyBells y = new ValleyBells();
        y.setKey(1, true);
        Check.badArgument("run", () -> y.run());
        y.undo();
        Check.due("errorPosition stored after the call that is undone", 0, y.errorPosition());
    }

    // ---- save

    private static void promise55NothingAndEverything() {
        ValleyBells x = new ValleyBells();
        x.save();
        Valleys.fillBells(x);
        Valleys.fillMelodies(x);
        Valleys.fillCliffs(x);
        x.setKey(11, true);
        x.setTolerance(50);
        x.setEntry(3, 15);
        x.restore();
        Check.due("state, saved when it was new", Valleys.state(new ValleyBells()), Valleys.state(x));
        ValleyBells y = Valleys.full();
        String full = Valleys.state(y);
        y.save();
        for (int k = 0; k < 12; k++) {
            y.removeBell(0);
        }
        for (int k = 0; k < 4; k++) {
            y.removeCliff(0);
            y.setEntry(k, 1);
        }
        y.setKey(5, true);
        y.setTolerance(0);
        y.restore();
        Check.due("state, saved when it was full", full, Valleys.state(y));
    }

    /** "replacing a previously saved state" */
    private static void promise55Replaces() {
        ValleyBells x = new ValleyBells();
        for (int k = 1; k <= 3; k++) {
            x.setTolerance(k);
            x.save();
        }
        x.setTolerance(4);
        x.restore();
        Check.due("tolerance, the last one saved", 3, x.tolerance());
        x.restore();
        Check.due("tolerance, restored again", 3, x.tolerance());
    }

    /** What happens after save does not reach what is saved. */
    private static void promise55IsACopy() {
        for (int k = 0; k < CHANGES.length; k++) {
            ValleyBells x = Valleys.busyWithoutText();
            String saved = Valleys.state(x);
            x.save();
            CHANGES[k].on(x);
            x.undo();
            CHANGES[k].on(x);
            x.undo();
            x.undo();
            x.restore();
            Check.due("state after save, " + CHANGE_NAMES[k] + " and restore", saved, Valleys.state(x));
        }
    }

    /** "Saving is not a changing call." */
    private static void promise55IsNoChangingCall() {
        ValleyBells x = new ValleyBells();
        x.save();
        Check.badState("undo after save of a new object", () -> x.undo());
        for (int k = 1; k <= 8; k++) {
            x.setTolerance(k);
            x.save();
        }
        for (int k = 7; k >= 0; k--) {
            Check.due("undo", k, x.undo());
        }
        Check.due("tolerance", 10, x.tolerance());
        x.restore();
        Check.due("tolerance as saved", 8, x.tolerance());
    }

    // ---- restore

    /** "if no state was saved" */
    private static void promise56NothingSaved() {
        Refusal.badStateIn(Valleys::empty, "restore, a new object", x -> x.restore());
        Refusal.badStateIn(UndoBoundsTest::neverSaved, "restore, never saved", x -> x.restore());
    }

    private static ValleyBells neverSaved() {
        ValleyBells x = Valleys.withPitches(6000, 6100, 6200);
        x.setTolerance(11);
        x.writeBell(1);
        Check.type(x, "key 7");
        return x;
    }

    /** "which stays saved" */
    private static void promise56StaysSaved() {
        for (int k = 0; k < CHANGES.length; k++) {
            ValleyBells x = Valleys.busyWithoutText();
            x.save();
            String saved = Valleys.state(x);
            for (int round = 0; round < 3; round++) {
                CHANGES[k].on(x);
                x.restore();
                Check.due("state, restored after " + CHANGE_NAMES[k], saved, Valleys.state(x));
            }
            x.restore();
            Check.due("state, restored with nothing in between", saved, Valleys.state(x));
        }
    }

    /** "Afterwards no call can be undone." */
    private static void promise56NoCallCanBeUndone() {
        for (int calls = 0; calls <= 9; calls++) {
            ValleyBells x = new ValleyBells();
            x.save();
            for (int k = 1; k <= calls; k++) {
                x.setTolerance(k);
            }
            x.restore();
            Check.badState("undo after " + calls + " calls and restore", () -> x.undo());
            Check.due("tolerance", 10, x.tolerance());
            for (int k = 1; k <= 9; k++) {
                x.setTolerance(20 + k);
            }
            for (int k = 7; k >= 0; k--) {
                Check.due("undo of calls after restore", k, x.undo());
                Check.due("tolerance", 21 + k, x.tolerance());
            }
            Check.badState("undo, the 9th", () -> x.undo());
        }
    }

    private static void promise56IsNoChangingCall() {
        ValleyBells x = Valleys.busy();
        x.restore();
        x.restore();
        Check.badState("undo after two calls of restore", () -> x.undo());
        x.setTolerance(1);
        Check.due("undo of the call after restore", 0, x.undo());
        Check.due("state as restored", "0false7 b1:6000 b3:6412 m0 m0 m0,1 m0", Valleys.state(x));
    }

    private static void promise56TheRestStays() {
        ValleyBells x = Valleys.busy();
        x.restore();
        Check.due("state as saved", "0false7 b1:6000 b3:6412 m0 m0 m0,1 m0", Valleys.state(x));
        Check.due("errorPosition after restore", 4, x.errorPosition());
        Check.due("failedCommand after restore", 1, x.failedCommand());
        Check.due("line after restore", "1h3:E4+12!", Check.line(x));
        Check.due("append after restore", 6, x.append('m'));
        x.save();
        Check.due("append after save", 7, x.append(';'));
        x.restore();
        Check.due("append after restore", 8, x.append('x'));
        Check.badArgument("run", () -> x.run());
        Check.due("errorPosition", 7, x.errorPosition());
    }
}
