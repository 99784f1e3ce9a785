/** The boundary cases of promises 1 to 6, a test for each sentence that names one. */
final class BellBoundsTest {
    private static final int MIN = Integer.MIN_VALUE;
    private static final int MAX = Integer.MAX_VALUE;

    public static void main(String[] args) {
        promise1NothingIsThere();
        promise1NothingIsShared();
        promise2Herds();
        promise2Pitches();
        promise2TwelveBells();
        promise2FirstListedException();
        promise3NoSuchBell();
        promise3FirstAndLastBell();
        promise3OnlyBell();
        promise3AllTones();
        promise3TonesOfBellsOnBothSides();
        promise4NoSuchBell();
        promise4Cents();
        promise4LowestPitch();
        promise4HighestPitch();
        promise4FirstListedException();
        promise5NoSuchBell();
        promise5Herds();
        promise6Herds();
        promise6Days();
        promise6NotBelowTheLowestPitch();
        promise6OnlyBellsOfTheHerd();
        promise6InKeyBeforeAndNotAfter();
        promise6NoneAndAllBells();
        promise6FirstListedException();
        Check.finish("BellBoundsTest");
    }

    private static void promise1NothingIsThere() {
        ValleyBells x = new ValleyBells();
        Check.due("bellCount", 0, x.bellCount());
        Check.due("cliffCount", 0, x.cliffCount());
        Check.due("tonic", 0, x.tonic());
        Check.due("isMinor", false, x.isMinor());
        Check.due("tolerance", 10, x.tolerance());
        Check.due("state", "0false10 m0 m0 m0 m0", Valleys.state(x));
        Check.due("isTuned", true, x.isTuned());
        Check.due("isConsistent", true, x.isConsistent());
        Check.due("totalDissonances", 0, x.totalDissonances());
        Check.due("the first append", 1, x.append('b'));
        Check.due("run", "throws.IllegalArgumentException", Valleys.answer(() -> x.run()));
    }

    private static void promise1NothingIsShared() {
        ValleyBells x = Valleys.full();
        String before = Valleys.state(x);
        ValleyBells y = new ValleyBells();
        Check.due("a new object beside a full one", "0false10 m0 m0 m0 m0", Valleys.state(y));
        Check.badState("restore of a new object beside one that saved", () -> y.restore());
        Check.badState("undo of a new object beside one that can", () -> y.undo());
        Check.noElement("errorPosition of a new object", () -> y.errorPosition());
        Check.noElement("failedCommand of a new object", () -> y.failedCommand());
        y.addBell(0, 6000);
        y.addTone(0, 0);
        y.writeChord(0);
        Check.due("append beside a full buffer", 1, y.append('k'));
        Check.due("a full object beside a new one", before, Valleys.state(x));
        Check.due("its line", "11h3:E2+11!", Check.line(x));
    }

    // ---- addBell

    /** "the herd, 0 to 3" */
    private static void promise2Herds() {
        ValleyBells x = new ValleyBells();
        for (int herd = 0; herd <= 3; herd++) {
            Check.due("addBell(" + herd + ", 6000)", herd, x.addBell(herd, 6000));
            Check.due("herdOf(" + herd + ")", herd, x.herdOf(herd));
        }
        for (int herd : new int[] {-1, 4, 5, MIN, MAX}) {
            Refusal.noIndex("addBell(" + herd + ", 6000)", y -> y.addBell(herd, 6000));
        }
    }

    /** "the pitch in cents, 3600 to 8400" */
    private static void promise2Pitches() {
        ValleyBells x = new ValleyBells();
        int[] allowed = {3600, 3601, 8399, 8400};
        for (int k = 0; k < allowed.length; k++) {
            Check.due("addBell(0, " + allowed[k] + ")", k, x.addBell(0, allowed[k]));
            Check.due("pitch(" + k + ")", allowed[k], x.pitch(k));
        }
        for (int pitch : new int[] {3599, 8401, 0, -3600, MIN, MAX}) {
            Refusal.badArgument("addBell(0, " + pitch + ")", y -> y.addBell(0, pitch));
        }
    }

    /** "if there are 12 bells" */
    private static void promise2TwelveBells() {
        ValleyBells x = new ValleyBells();
        for (int k = 0; k < 12; k++) {
            Check.due("addBell, bell " + k, k, x.addBell(3 - k % 4, 6000 + k));
        }
        for (int k = 0; k < 12; k++) {
            Check.due("pitch(" + k + ")", 6000 + k, x.pitch(k));
            Check.due("herdOf(" + k + ")", 3 - k % 4, x.herdOf(k));
        }
        Check.badState("addBell, the 13th", () -> x.addBell(0, 6000));
        Check.due("bellCount", 12, x.bellCount());
        x.removeBell(0);
        Check.due("addBell where one was removed", 11, x.addBell(2, 7000));
        Check.badState("addBell, the 13th again", () -> x.addBell(0, 6000));
        x.undo();
        Check.due("addBell where one was undone", 11, x.addBell(1, 7100));
        Refusal.badStateIn(Valleys::full, "addBell(0, 3600), full", y -> y.addBell(0, 3600));
        Refusal.badStateIn(Valleys::full, "addBell(3, 8400), full", y -> y.addBell(3, 8400));
    }

    private static void promise2FirstListedException() {
        Refusal.noIndex("addBell(-1, 3599)", x -> x.addBell(-1, 3599));
        Refusal.noIndex("addBell(4, 8401)", x -> x.addBell(4, 8401));
        Refusal.badArgumentIn(Valleys::full, "addBell(0, 3599), full", x -> x.addBell(0, 3599));
        Refusal.badArgumentIn(Valleys::full, "addBell(3, 8401), full", x -> x.addBell(3, 8401));
    }

    // ---- removeBell

    private static void promise3NoSuchBell() {
        for (int bell : new int[] {-1, 12, 13, MIN, MAX}) {
            Refusal.noIndex("removeBell(" + bell + ")", x -> x.removeBell(bell));
        }
        Refusal.noIndexIn(Valleys::empty, "removeBell(0), no bells", x -> x.removeBell(0));
        Refusal.noIndexIn(Valleys::busy, "removeBell(5) of 5", x -> x.removeBell(5));
    }

    /** "the index of each bell behind it decreases by 1" */
    private static void promise3FirstAndLastBell() {
        ValleyBells x = new ValleyBells();
        Valleys.fillBells(x);
        Check.due("removeBell(11) of 12", 0, x.removeBell(11));
        Check.due("bellCount", 11, x.bellCount());
        for (int k = 0; k < 11; k++) {
            Check.due("pitch(" + k + ")", 8400 - 399 * k, x.pitch(k));
            Check.due("herdOf(" + k + ")", k % 4, x.herdOf(k));
        }
        Check.due("removeBell(0) of 11", 0, x.removeBell(0));
        Check.due("bellCount", 10, x.bellCount());
        for (int k = 0; k < 10; k++) {
            Check.due("pitch(" + k + ")", 8400 - 399 * (k + 1), x.pitch(k));
            Check.due("herdOf(" + k + ")", (k + 1) % 4, x.herdOf(k));
        }
        Check.noIndex("pitch(10) of 10", () -> x.pitch(10));
    }

    private static void promise3OnlyBell() {
        ValleyBells x = new ValleyBells();
        x.addBell(2, 6000);
        Check.due("removeBell(0) of 1", 0, x.removeBell(0));
        Check.due("bellCount", 0, x.bellCount());
        Check.noIndex("removeBell(0) of none", () -> x.removeBell(0));
        Check.due("addBell", 0, x.addBell(1, 6100));
        Check.due("herdOf(0)", 1, x.herdOf(0));
    }

    /** "all tones of the removed bell are removed from all melodies" */
    private static void promise3AllTones() {
        ValleyBells x = Valleys.withPitches(6000, 6100);
        for (int herd = 0; herd < 4; herd++) {
            Valleys.play(x, herd, 1, 1, 1, 1, 1, 1, 1, 1);
        }
        Check.due("removeBell(0), a bell without tones", 0, x.removeBell(0));
        Check.due("removeBell(0), 32 tones", 32, x.removeBell(0));
        for (int herd = 0; herd < 4; herd++) {
            Check.due("melodyLength(" + herd + ")", 0, x.melodyLength(herd));
        }
        Check.noElement("lastBeat", () -> x.lastBeat());
        Check.due("undo", 7, x.undo());
        Check.due("state after undo", "0false10 b0:6100 m0,0,0,0,0,0,0,0,0 m0,0,0,0,0,0,0,0,0"
            + " m0,0,0,0,0,0,0,0,0 m0,0,0,0,0,0,0,0,0", Valleys.state(x));
    }

    private static void promise3TonesOfBellsOnBothSides() {
        ValleyBells x = Valleys.withPitches(6000, 6100, 6200, 6300);
        Valleys.play(x, 0, 2, 3, 1, 2, 0, 3, 2, 2);
        Valleys.play(x, 3, 2, 2);
        Valleys.play(x, 1, 3);
        x.setEntry(0, 15);
        Check.due("removeBell(2)", 6, x.removeBell(2));
        Check.due("state", "0false10 b0:6000 b0:6100 b0:6300 m15,2,1,0,2 m0,2 m0 m0", Valleys.state(x));
        Check.due("removeBell(0)", 1, x.removeBell(0));
        Check.due("state", "0false10 b0:6100 b0:6300 m15,1,0,1 m0,1 m0 m0", Valleys.state(x));
        Check.due("removeBell(1)", 3, x.removeBell(1));
        Check.due("state", "0false10 b0:6100 m15,0 m0 m0 m0", Valleys.state(x));
    }

    // ---- tune

    private static void promise4NoSuchBell() {
        for (int bell : new int[] {-1, 12, MIN, MAX}) {
            Refusal.noIndex("tune(" + bell + ", 1)", x -> x.tune(bell, 1));
        }
        Refusal.noIndexIn(Valleys::empty, "tune(0, 0), no bells", x -> x.tune(0, 0));
        Refusal.noIndexIn(Valleys::busy, "tune(5, 0) of 5", x -> x.tune(5, 0));
        ValleyBells x = Valleys.full();
        Check.due("tune(11, 1) of 12", 4012, x.tune(11, 1));
        Check.due("pitch(10)", 4410, x.pitch(10));
    }

    /** "the number of cents by which the pitch increases, -99 to 99" */
    private static void promise4Cents() {
        ValleyBells x = Valleys.withPitches(6000);
        Check.due("tune(0, 99)", 6099, x.tune(0, 99));
        Check.due("tune(0, -99)", 6000, x.tune(0, -99));
        Check.due("tune(0, 98)", 6098, x.tune(0, 98));
        Check.due("tune(0, -98)", 6000, x.tune(0, -98));
        Check.due("tune(0, 0)", 6000, x.tune(0, 0));
        for (int cents : new int[] {-100, 100, -101, 101, MIN, MAX}) {
            Refusal.badArgumentIn(Valleys::busy, "tune(0, " + cents + ")", y -> y.tune(0, cents));
            Refusal.badArgumentIn(Valleys::full, "tune(11, " + cents + ")", y -> y.tune(11, cents));
        }
    }

    /** "if the new pitch would be less than 3600" */
    private static void promise4LowestPitch() {
        ValleyBells x = Valleys.withPitches(3699, 3698, 3601);
        Check.due("tune(0, -99) of 3699", 3600, x.tune(0, -99));
        Check.badState("tune(1, -99) of 3698", () -> x.tune(1, -99));
        Check.due("tune(1, -98) of 3698", 3600, x.tune(1, -98));
        Check.badState("tune(2, -2) of 3601", () -> x.tune(2, -2));
        Check.due("tune(2, -1) of 3601", 3600, x.tune(2, -1));
        Check.badState("tune(2, -1) of 3600", () -> x.tune(2, -1));
        Check.due("tune(2, 0) of 3600", 3600, x.tune(2, 0));
        Refusal.badStateIn(Valleys::busy, "tune(2, -1) of 3600", y -> y.tune(2, -1));
        Refusal.badStateIn(Valleys::busy, "tune(2, -99) of 3600", y -> y.tune(2, -99));
    }

    /** "or greater than 8400" */
    private static void promise4HighestPitch() {
        ValleyBells x = Valleys.withPitches(8301, 8302, 8399);
        Check.due("tune(0, 99) of 8301", 8400, x.tune(0, 99));
        Check.badState("tune(1, 99) of 8302", () -> x.tune(1, 99));
        Check.due("tune(1, 98) of 8302", 8400, x.tune(1, 98));
        Check.badState("tune(2, 2) of 8399", () -> x.tune(2, 2));
        Check.due("tune(2, 1) of 8399", 8400, x.tune(2, 1));
        Check.badState("tune(2, 1) of 8400", () -> x.tune(2, 1));
        Check.due("tune(2, 0) of 8400", 8400, x.tune(2, 0));
        Refusal.badStateIn(Valleys::busy, "tune(3, 1) of 8400", y -> y.tune(3, 1));
        Refusal.badStateIn(Valleys::full, "tune(0, 99) of 8400", y -> y.tune(0, 99));
    }

    private static void promise4FirstListedException() {
        Refusal.noIndex("tune(12, 100)", x -> x.tune(12, 100));
        Refusal.noIndex("tune(-1, -100)", x -> x.tune(-1, -100));
        Refusal.badArgumentIn(Valleys::busy, "tune(2, -100) of 3600", x -> x.tune(2, -100));
        Refusal.badArgumentIn(Valleys::busy, "tune(3, 100) of 8400", x -> x.tune(3, 100));
    }

    // ---- moveBell

    private static void promise5NoSuchBell() {
        for (int bell : new int[] {-1, 12, MIN, MAX}) {
            Refusal.noIndex("moveBell(" + bell + ", 0)", x -> x.moveBell(bell, 0));
            Refusal.noIndex("moveBell(" + bell + ", 4)", x -> x.moveBell(bell, 4));
        }
        Refusal.noIndexIn(Valleys::empty, "moveBell(0, 0), no bells", x -> x.moveBell(0, 0));
        Refusal.noIndexIn(Valleys::busy, "moveBell(5, 0) of 5", x -> x.moveBell(5, 0));
        ValleyBells x = Valleys.full();
        Check.due("moveBell(11, 0) of 12", 3, x.moveBell(11, 0));
        Check.due("herdOf(11)", 0, x.herdOf(11));
        Check.due("herdOf(10)", 2, x.herdOf(10));
    }

    /** "the new herd, 0 to 3" */
    private static void promise5Herds() {
        ValleyBells x = Valleys.withPitches(6000);
        int previous = 0;
        for (int herd : new int[] {3, 0, 0, 1, 2, 3, 3}) {
            Check.due("moveBell(0, " + herd + ")", previous, x.moveBell(0, herd));
            Check.due("herdOf(0)", herd, x.herdOf(0));
            previous = herd;
        }
        for (int herd : new int[] {-1, 4, MIN, MAX}) {
            Refusal.noIndex("moveBell(0, " + herd + ")", y -> y.moveBell(0, herd));
        }
    }

    // ---- graze

    /** "the herd, 0 to 3" */
    private static void promise6Herds() {
        for (int herd = 0; herd <= 3; herd++) {
            ValleyBells x = new ValleyBells();
            x.addBell(herd, 6000);
            x.addBell((herd + 1) % 4, 6000);
            Check.due("graze(" + herd + ", 11)", 1, x.graze(herd, 11));
            Check.due("pitch(0)", 5989, x.pitch(0));
            Check.due("pitch(1)", 6000, x.pitch(1));
        }
        for (int herd : new int[] {-1, 4, MIN, MAX}) {
            Refusal.noIndex("graze(" + herd + ", 1)", x -> x.graze(herd, 1));
        }
    }

    /** "the number of days, 1 to 99" */
    private static void promise6Days() {
        ValleyBells x = Valleys.withPitches(6000);
        Check.due("graze(0, 1)", 0, x.graze(0, 1));
        Check.due("pitch(0)", 5999, x.pitch(0));
        Check.due("graze(0, 99)", 0, x.graze(0, 99));
        Check.due("pitch(0)", 5900, x.pitch(0));
        for (int days : new int[] {0, 100, -1, 101, MIN, MAX}) {
            Refusal.badArgument("graze(0, " + days + ")", y -> y.graze(0, days));
        }
    }

    /** "but not below 3600" */
    private static void promise6NotBelowTheLowestPitch() {
        ValleyBells x = Valleys.withPitches(3699, 3698, 3700, 3601, 3600);
        Check.due("graze(0, 99)", 0, x.graze(0, 99));
        int[] due = {3600, 3600, 3601, 3600, 3600};
        for (int k = 0; k < due.length; k++) {
            Check.due("pitch(" + k + ")", due[k], x.pitch(k));
        }
        Check.due("graze(0, 1)", 0, x.graze(0, 1));
        Check.due("pitch(2)", 3600, x.pitch(2));
        Check.due("graze(0, 2)", 0, x.graze(0, 2));
        Check.due("pitch(2)", 3600, x.pitch(2));
    }

    /** "the pitch of each bell of the herd decreases" */
    private static void promise6OnlyBellsOfTheHerd() {
        ValleyBells x = Valleys.full();
        x.graze(3, 50);
        for (int k = 0; k < 12; k++) {
            Check.due("pitch(" + k + ")", 8400 - 399 * k - (k % 4 == 3 ? 50 : 0), x.pitch(k));
        }
        x.moveBell(0, 3);
        x.moveBell(3, 0);
        x.graze(3, 1);
        Check.due("pitch(0), moved into the herd", 8399, x.pitch(0));
        Check.due("pitch(3), moved out of the herd", 7153, x.pitch(3));
    }

    /** "the number of bells that are in key before the call and not in key after it" */
    private static void promise6InKeyBeforeAndNotAfter() {
        int[][] rows = {{5991, 1, 0}, {5990, 1, 1}, {6011, 1, 0}, {6012, 1, 0}, {6010, 20, 0}, {6010, 21, 1},
            {6000, 90, 0}, {6000, 89, 1}, {6150, 40, 0}, {6100, 99, 0}, {3600, 99, 0}, {3610, 99, 0}, {3611, 99, 0}};
        for (int[] row : rows) {
            ValleyBells x = Valleys.withPitches(row[0]);
            Check.due("graze(0, " + row[1] + ") of " + row[0], row[2], x.graze(0, row[1]));
        }
        ValleyBells cSharp = Valleys.withPitches(3610, 3710, 3700);
        cSharp.setKey(1, true);
        Check.due("graze(0, 99): C# becomes C, which is not in the scale", 2, cSharp.graze(0, 99));
    }

    private static void promise6NoneAndAllBells() {
        ValleyBells x = new ValleyBells();
        Check.due("graze(0, 99), no bells", 0, x.graze(0, 99));
        Check.due("undo of a graze without bells", 0, x.undo());
        for (int k = 0; k < 12; k++) {
            x.addBell(2, 6000);
        }
        Check.due("graze(1, 50), a herd without bells", 0, x.graze(1, 50));
        Check.due("graze(2, 50), 12 bells", 12, x.graze(2, 50));
        Check.due("graze(2, 50), 12 bells that were out of key", 0, x.graze(2, 50));
    }

    private static void promise6FirstListedException() {
        Refusal.noIndex("graze(4, 0)", x -> x.graze(4, 0));
        Refusal.noIndex("graze(-1, 100)", x -> x.graze(-1, 100));
    }
}
