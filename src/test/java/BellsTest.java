/** Promises 1 to 6. */
final class BellsTest {
    public static void main(String[] args) {
        promise1NewObject();
        promise2AddBell();
        promise3RemoveBell();
        promise3RemoveBellRenumbersTones();
        promise4Tune();
        promise5MoveBell();
        promise6Graze();
        promise6GrazeCountsLosses();
        Check.finish("BellsTest");
    }

    private static void promise1NewObject() {
        ValleyBells x = new ValleyBells();
        Check.due("bellCount", 0, x.bellCount());
        Check.due("cliffCount", 0, x.cliffCount());
        Check.due("tonic", 0, x.tonic());
        Check.due("isMinor", false, x.isMinor());
        Check.due("tolerance", 10, x.tolerance());
        for (int herd = 0; herd < 4; herd++) {
            Check.due("melodyLength", 0, x.melodyLength(herd));
            Check.due("entry", 0, x.entry(herd));
        }
        Check.due("chordSize", 0, x.chordSize(0));
        Check.due("line", "", Check.line(x));
        Check.badState("undo", () -> x.undo());
        Check.badState("restore", () -> x.restore());
        Check.noElement("errorPosition", () -> x.errorPosition());
        Check.noElement("failedCommand", () -> x.failedCommand());
        Check.due("append", 1, x.append('k'));
        ValleyBells y = new ValleyBells();
        x.addBell(0, 6000);
        Check.due("bellCount of another object", 0, y.bellCount());
    }

    private static void promise2AddBell() {
        ValleyBells x = new ValleyBells();
        Check.noIndex("addBell(-1, 6000)", () -> x.addBell(-1, 6000));
        Check.noIndex("addBell(4, 6000)", () -> x.addBell(4, 6000));
        Check.noIndex("addBell(MAX, 0)", () -> x.addBell(Integer.MAX_VALUE, 0));
        Check.noIndex("addBell(MIN, 0)", () -> x.addBell(Integer.MIN_VALUE, 0));
        Check.badArgument("addBell(0, 3599)", () -> x.addBell(0, 3599));
        Check.badArgument("addBell(0, 8401)", () -> x.addBell(0, 8401));
        Check.badArgument("addBell(0, MIN)", () -> x.addBell(0, Integer.MIN_VALUE));
        Check.badArgument("addBell(0, MAX)", () -> x.addBell(0, Integer.MAX_VALUE));
        Check.due("bellCount", 0, x.bellCount());
        Check.due("addBell(0, 3600)", 0, x.addBell(0, 3600));
        Check.due("addBell(3, 8400)", 1, x.addBell(3, 8400));
        for (int k = 2; k < 12; k++) {
            Check.due("addBell", k, x.addBell(k % 4, 6000 + k));
        }
        Check.due("pitch(0)", 3600, x.pitch(0));
        Check.due("pitch(1)", 8400, x.pitch(1));
        Check.due("herdOf(1)", 3, x.herdOf(1));
        Check.due("pitch(11)", 6011, x.pitch(11));
        Check.due("herdOf(11)", 3, x.herdOf(11));
        Check.badState("addBell, the 13th", () -> x.addBell(0, 6000));
        Check.badArgument("addBell(0, 3599), full", () -> x.addBell(0, 3599));
        Check.noIndex("addBell(4, 3599), full", () -> x.addBell(4, 3599));
        Check.due("bellCount", 12, x.bellCount());
    }

    private static void promise3RemoveBell() {
        ValleyBells x = new ValleyBells();
        Check.noIndex("removeBell(0)", () -> x.removeBell(0));
        for (int k = 0; k < 12; k++) {
            x.addBell(k % 4, 4000 + 100 * k);
        }
        Check.noIndex("removeBell(-1)", () -> x.removeBell(-1));
        Check.noIndex("removeBell(12)", () -> x.removeBell(12));
        Check.noIndex("removeBell(MIN)", () -> x.removeBell(Integer.MIN_VALUE));
        Check.noIndex("removeBell(MAX)", () -> x.removeBell(Integer.MAX_VALUE));
        Check.due("removeBell(11)", 0, x.removeBell(11));
        Check.due("removeBell(3)", 0, x.removeBell(3));
        Check.due("bellCount", 10, x.bellCount());
        Check.due("pitch(2)", 4200, x.pitch(2));
        Check.due("pitch(3)", 4400, x.pitch(3));
        Check.due("herdOf(3)", 0, x.herdOf(3));
        Check.due("pitch(9)", 5000, x.pitch(9));
        Check.noIndex("pitch(10)", () -> x.pitch(10));
        Check.due("addBell", 10, x.addBell(0, 6000));
    }

    private static void promise3RemoveBellRenumbersTones() {
        ValleyBells x = new ValleyBells();
        for (int k = 0; k < 3; k++) {
            x.addBell(0, 6000 + 100 * k);
        }
        int[] tones = {1, 0, 1, 2, 1};
        for (int bell : tones) {
            x.addTone(0, bell);
            x.addTone(3, bell);
        }
        x.addTone(1, 1);
        x.addTone(2, 2);
        Check.due("removeBell(1)", 7, x.removeBell(1));
        Check.due("melodyLength(0)", 2, x.melodyLength(0));
        Check.due("tone(0, 0)", 0, x.tone(0, 0));
        Check.due("tone(0, 1)", 1, x.tone(0, 1));
        Check.due("tone(3, 1)", 1, x.tone(3, 1));
        Check.due("melodyLength(1)", 0, x.melodyLength(1));
        Check.due("tone(2, 0)", 1, x.tone(2, 0));
        Check.due("removeBell(1)", 3, x.removeBell(1));
        Check.due("tone(0, 0)", 0, x.tone(0, 0));
        Check.due("melodyLength(3)", 1, x.melodyLength(3));
    }

    private static void promise4Tune() {
        ValleyBells x = new ValleyBells();
        Check.noIndex("tune(0, 100)", () -> x.tune(0, 100));
        x.addBell(0, 3699);
        x.addBell(0, 8301);
        Check.due("tune(0, -99)", 3600, x.tune(0, -99));
        Check.due("tune(1, 99)", 8400, x.tune(1, 99));
        Check.due("pitch(0)", 3600, x.pitch(0));
        Check.badState("tune(0, -1)", () -> x.tune(0, -1));
        Check.badState("tune(1, 1)", () -> x.tune(1, 1));
        Check.badArgument("tune(0, -100)", () -> x.tune(0, -100));
        Check.badArgument("tune(0, 100)", () -> x.tune(0, 100));
        Check.badArgument("tune(0, MIN)", () -> x.tune(0, Integer.MIN_VALUE));
        Check.badArgument("tune(0, MAX)", () -> x.tune(0, Integer.MAX_VALUE));
        Check.noIndex("tune(2, 1)", () -> x.tune(2, 1));
        Check.noIndex("tune(-1, 1)", () -> x.tune(-1, 1));
        Check.due("tune(0, 0)", 3600, x.tune(0, 0));
        Check.due("tune(0, 42)", 3642, x.tune(0, 42));
        Check.due("pitch(1)", 8400, x.pitch(1));
    }

    private static void promise5MoveBell() {
        ValleyBells x = new ValleyBells();
        Check.noIndex("moveBell(0, 0)", () -> x.moveBell(0, 0));
        x.addBell(2, 6000);
        x.addBell(1, 6100);
        Check.due("moveBell(0, 3)", 2, x.moveBell(0, 3));
        Check.due("moveBell(0, 0)", 3, x.moveBell(0, 0));
        Check.due("moveBell(0, 0)", 0, x.moveBell(0, 0));
        Check.noIndex("moveBell(0, 4)", () -> x.moveBell(0, 4));
        Check.noIndex("moveBell(0, -1)", () -> x.moveBell(0, -1));
        Check.noIndex("moveBell(2, 0)", () -> x.moveBell(2, 0));
        Check.noIndex("moveBell(-1, 0)", () -> x.moveBell(-1, 0));
        Check.due("herdOf(0)", 0, x.herdOf(0));
        Check.due("herdOf(1)", 1, x.herdOf(1));
    }

    private static void promise6Graze() {
        ValleyBells x = new ValleyBells();
        x.addBell(0, 3650);
        x.addBell(1, 6000);
        x.addBell(0, 6000);
        x.addBell(3, 3600);
        Check.due("graze(0, 99): from C to B, in key", 0, x.graze(0, 99));
        Check.due("pitch(0)", 3600, x.pitch(0));
        Check.due("pitch(1)", 6000, x.pitch(1));
        Check.due("pitch(2)", 5901, x.pitch(2));
        Check.due("graze(3, 1)", 0, x.graze(3, 1));
        Check.due("pitch(3)", 3600, x.pitch(3));
        Check.due("graze(2, 1), no bell", 0, x.graze(2, 1));
        Check.noIndex("graze(4, 0)", () -> x.graze(4, 0));
        Check.noIndex("graze(-1, 1)", () -> x.graze(-1, 1));
        Check.badArgument("graze(0, 0)", () -> x.graze(0, 0));
        Check.badArgument("graze(0, 100)", () -> x.graze(0, 100));
        Check.badArgument("graze(0, MIN)", () -> x.graze(0, Integer.MIN_VALUE));
        Check.due("pitch(2)", 5901, x.pitch(2));
    }

    private static void promise6GrazeCountsLosses() {
        ValleyBells x = new ValleyBells();
        x.addBell(0, 6010);
        x.addBell(0, 6000);
        x.addBell(0, 6011);
        x.addBell(1, 6111);
        Check.due("graze(0, 1): one comes into key", 0, x.graze(0, 1));
        Check.due("isInKey(2)", true, x.isInKey(2));
        Check.due("graze(0, 10)", 1, x.graze(0, 10));
        Check.due("isInKey(0)", true, x.isInKey(0));
        Check.due("isInKey(1)", false, x.isInKey(1));
        Check.due("graze(0, 80): 5999 and 6000 to 5919 and 5920", 2, x.graze(0, 80));
        Check.due("isInKey(0)", false, x.isInKey(0));
        ValleyBells y = new ValleyBells();
        y.addBell(2, 6005);
        Check.due("graze(2, 98): from C to B, in key", 0, y.graze(2, 98));
        Check.due("isInKey(0)", true, y.isInKey(0));
    }
}
