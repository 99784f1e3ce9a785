/** The boundary cases of promises 9 to 13 and 31 to 37, a test for each sentence that names one. */
final class MelodyBoundsTest {
    private static final int MIN = Integer.MIN_VALUE;
    private static final int MAX = Integer.MAX_VALUE;
    private static final int[] NO_HERDS = {-1, 4, MIN, MAX};

    public static void main(String[] args) {
        promise9Herds();
        promise9Bells();
        promise9EightTones();
        promise9FirstListedException();
        promise10Herds();
        promise10EmptyAndFull();
        promise11Herds();
        promise11Entries();
        promise11FirstListedException();
        promise12Delays();
        promise12Transpositions();
        promise12FourCliffs();
        promise12FirstListedException();
        promise13NoSuchCliff();
        promise13FirstMiddleAndLast();
        promise31EmptyAndFull();
        promise32NoSuchHerd();
        promise32NoSuchPosition();
        promise32FirstAndLastPosition();
        promise32FirstListedException();
        promise33Herds();
        promise34NoSuchHerd();
        promise34EmptyMelodies();
        promise34DifferentLengths();
        promise34NotTheSameAtAllPositions();
        promise34OneAndEightTones();
        promise34LeastAndMost();
        promise34TheSameHerd();
        promise34FirstListedException();
        promise35NoneAndFour();
        promises36And37NoSuchCliff();
        promises36And37FirstAndLast();
        Check.finish("MelodyBoundsTest");
    }

    // ---- addTone

    /** "the herd, 0 to 3" */
    private static void promise9Herds() {
        ValleyBells x = Valleys.withPitches(6000);
        for (int herd = 0; herd <= 3; herd++) {
            Check.due("addTone(" + herd + ", 0)", 1, x.addTone(herd, 0));
            Check.due("melodyLength(" + herd + ")", 1, x.melodyLength(herd));
        }
        for (int herd : NO_HERDS) {
            Refusal.noIndex("addTone(" + herd + ", 0)", y -> y.addTone(herd, 0));
        }
    }

    /** "or there is no such bell" */
    private static void promise9Bells() {
        for (int bell : new int[] {-1, 12, MIN, MAX}) {
            Refusal.noIndex("addTone(1, " + bell + ")", x -> x.addTone(1, bell));
        }
        Refusal.noIndexIn(Valleys::empty, "addTone(0, 0), no bells", x -> x.addTone(0, 0));
        Refusal.noIndexIn(Valleys::busy, "addTone(0, 5) of 5", x -> x.addTone(0, 5));
        ValleyBells x = new ValleyBells();
        Valleys.fillBells(x);
        Check.due("addTone(3, 11) of 12", 1, x.addTone(3, 11));
        Check.due("addTone(3, 0) of 12", 2, x.addTone(3, 0));
        Check.due("tone(3, 0)", 11, x.tone(3, 0));
        Check.due("tone(3, 1)", 0, x.tone(3, 1));
    }

    /** "if the melody has 8 tones" */
    private static void promise9EightTones() {
        for (int herd = 0; herd < 4; herd++) {
            int full = herd;
            ValleyBells x = Valleys.withPitches(6000, 6100);
            for (int k = 1; k <= 8; k++) {
                Check.due("addTone(" + herd + ", 0), tone " + k, k, x.addTone(herd, 0));
            }
            Check.badState("addTone(" + herd + ", 0), the 9th", () -> x.addTone(full, 0));
            Check.due("addTone to another herd", 1, x.addTone((herd + 1) % 4, 1));
            Check.due("clearMelody", 8, x.clearMelody(herd));
            Check.due("addTone after clearMelody", 1, x.addTone(herd, 1));
            Refusal.badStateIn(Valleys::full, "addTone(" + herd + ", 0), full", y -> y.addTone(full, 0));
            Refusal.badStateIn(Valleys::full, "addTone(" + herd + ", 11), full", y -> y.addTone(full, 11));
        }
        ValleyBells x = Valleys.withPitches(6000, 6100);
        Valleys.play(x, 0, 0, 0, 0, 0, 0, 0, 0, 1);
        x.removeBell(1);
        Check.due("addTone where one was removed", 8, x.addTone(0, 0));
        Check.badState("addTone, the 9th", () -> x.addTone(0, 0));
    }

    private static void promise9FirstListedException() {
        Refusal.noIndexIn(Valleys::full, "addTone(0, 12), full", x -> x.addTone(0, 12));
        Refusal.noIndexIn(Valleys::full, "addTone(3, -1), full", x -> x.addTone(3, -1));
        Refusal.noIndex("addTone(4, 12)", x -> x.addTone(4, 12));
    }

    // ---- clearMelody

    private static void promise10Herds() {
        for (int herd : NO_HERDS) {
            Refusal.noIndex("clearMelody(" + herd + ")", x -> x.clearMelody(herd));
        }
        ValleyBells x = Valleys.full();
        Check.due("clearMelody(0)", 8, x.clearMelody(0));
        Check.due("clearMelody(3)", 8, x.clearMelody(3));
        int[] due = {0, 8, 8, 0};
        for (int herd = 0; herd < 4; herd++) {
            Check.due("melodyLength(" + herd + ")", due[herd], x.melodyLength(herd));
        }
    }

    /** "Returns the number of removed tones." */
    private static void promise10EmptyAndFull() {
        ValleyBells x = new ValleyBells();
        for (int herd = 0; herd < 4; herd++) {
            Check.due("clearMelody(" + herd + "), empty", 0, x.clearMelody(herd));
        }
        x.addBell(0, 6000);
        Valleys.play(x, 2, 0, 0, 0, 0, 0, 0, 0, 0);
        Valleys.play(x, 1, 0);
        x.setEntry(2, 15);
        Check.due("clearMelody(2), full", 8, x.clearMelody(2));
        Check.due("clearMelody(2), empty again", 0, x.clearMelody(2));
        Check.due("entry(2) stays", 15, x.entry(2));
        Check.due("clearMelody(1), one tone", 1, x.clearMelody(1));
        Check.noElement("lastBeat", () -> x.lastBeat());
    }

    // ---- setEntry

    private static void promise11Herds() {
        ValleyBells x = new ValleyBells();
        for (int herd = 0; herd <= 3; herd++) {
            Check.due("entry(" + herd + "), initially", 0, x.entry(herd));
            Check.due("setEntry(" + herd + ", ..)", 0, x.setEntry(herd, 15 - herd));
        }
        for (int herd = 0; herd <= 3; herd++) {
            Check.due("entry(" + herd + ")", 15 - herd, x.entry(herd));
        }
        for (int herd : NO_HERDS) {
            Refusal.noIndex("setEntry(" + herd + ", 1)", y -> y.setEntry(herd, 1));
        }
    }

    /** "the entry in beats, 0 to 15" */
    private static void promise11Entries() {
        ValleyBells x = new ValleyBells();
        Check.due("setEntry(1, 15)", 0, x.setEntry(1, 15));
        Check.due("entry(1)", 15, x.entry(1));
        Check.due("setEntry(1, 15) again", 15, x.setEntry(1, 15));
        Check.due("setEntry(1, 0)", 15, x.setEntry(1, 0));
        Check.due("entry(1)", 0, x.entry(1));
        Check.due("setEntry(1, 14)", 0, x.setEntry(1, 14));
        Check.due("setEntry(1, 1)", 14, x.setEntry(1, 1));
        for (int beats : new int[] {-1, 16, 17, MIN, MAX}) {
            Refusal.badArgument("setEntry(0, " + beats + ")", y -> y.setEntry(0, beats));
            Refusal.badArgument("setEntry(3, " + beats + ")", y -> y.setEntry(3, beats));
        }
    }

    private static void promise11FirstListedException() {
        Refusal.noIndex("setEntry(4, 16)", x -> x.setEntry(4, 16));
        Refusal.noIndex("setEntry(-1, -1)", x -> x.setEntry(-1, -1));
    }

    // ---- addCliff and removeCliff

    /** "the delay in beats, 1 to 8" */
    private static void promise12Delays() {
        ValleyBells x = new ValleyBells();
        int[] allowed = {1, 8, 2, 7};
        for (int k = 0; k < allowed.length; k++) {
            Check.due("addCliff(" + allowed[k] + ", 0)", k, x.addCliff(allowed[k], 0));
            Check.due("delay(" + k + ")", allowed[k], x.delay(k));
        }
        for (int delay : new int[] {0, 9, -1, 10, MIN, MAX}) {
            Refusal.badArgument("addCliff(" + delay + ", 0)", y -> y.addCliff(delay, 0));
        }
    }

    /** "the transposition, -12 to 12" */
    private static void promise12Transpositions() {
        ValleyBells x = new ValleyBells();
        int[] allowed = {-12, 12, -11, 0};
        for (int k = 0; k < allowed.length; k++) {
            Check.due("addCliff(1, " + allowed[k] + ")", k, x.addCliff(1, allowed[k]));
            Check.due("transposition(" + k + ")", allowed[k], x.transposition(k));
        }
        for (int semitones : new int[] {-13, 13, -14, 24, MIN, MAX}) {
            Refusal.badArgument("addCliff(1, " + semitones + ")", y -> y.addCliff(1, semitones));
            Refusal.badArgument("addCliff(8, " + semitones + ")", y -> y.addCliff(8, semitones));
        }
    }

    /** "if there are 4 cliffs" */
    private static void promise12FourCliffs() {
        ValleyBells x = new ValleyBells();
        for (int k = 0; k < 4; k++) {
            Check.due("addCliff, cliff " + k, k, x.addCliff(1, 0));
        }
        Check.badState("addCliff, the 5th", () -> x.addCliff(1, 0));
        Check.due("cliffCount", 4, x.cliffCount());
        x.removeCliff(3);
        Check.due("addCliff where one was removed", 3, x.addCliff(8, 12));
        Check.badState("addCliff, the 5th again", () -> x.addCliff(8, -12));
        Refusal.badStateIn(Valleys::full, "addCliff(1, -12), full", y -> y.addCliff(1, -12));
        Refusal.badStateIn(Valleys::full, "addCliff(8, 12), full", y -> y.addCliff(8, 12));
    }

    private static void promise12FirstListedException() {
        Refusal.badArgumentIn(Valleys::full, "addCliff(0, 0), full", x -> x.addCliff(0, 0));
        Refusal.badArgumentIn(Valleys::full, "addCliff(9, 13), full", x -> x.addCliff(9, 13));
        Refusal.badArgumentIn(Valleys::full, "addCliff(1, -13), full", x -> x.addCliff(1, -13));
    }

    private static void promise13NoSuchCliff() {
        for (int cliff : new int[] {-1, 4, MIN, MAX}) {
            Refusal.noIndex("removeCliff(" + cliff + ")", x -> x.removeCliff(cliff));
        }
        Refusal.noIndexIn(Valleys::empty, "removeCliff(0), no cliffs", x -> x.removeCliff(0));
        Refusal.noIndexIn(Valleys::busy, "removeCliff(2) of 2", x -> x.removeCliff(2));
    }

    /** "the index of each cliff behind it decreases by 1" */
    private static void promise13FirstMiddleAndLast() {
        for (int removed = 0; removed < 4; removed++) {
            ValleyBells x = new ValleyBells();
            Valleys.fillCliffs(x);
            Check.due("removeCliff(" + removed + ") of 4", 3, x.removeCliff(removed));
            for (int k = 0; k < 3; k++) {
                int before = k < removed ? k : k + 1;
                Check.due("delay(" + k + ")", 8 - 2 * before, x.delay(k));
                Check.due("transposition(" + k + ")", 12 - 8 * before, x.transposition(k));
            }
            Check.noIndex("delay(3)", () -> x.delay(3));
            Check.due("removeCliff(2) of 3", 2, x.removeCliff(2));
            Check.due("removeCliff(0) of 2", 1, x.removeCliff(0));
            Check.due("removeCliff(0) of 1", 0, x.removeCliff(0));
            Check.noIndex("removeCliff(0) of none", () -> x.removeCliff(0));
        }
    }

    // ---- melodyLength, tone and entry

    private static void promise31EmptyAndFull() {
        for (int herd : NO_HERDS) {
            Refusal.noIndex("melodyLength(" + herd + ")", x -> x.melodyLength(herd));
        }
        ValleyBells x = new ValleyBells();
        ValleyBells y = Valleys.full();
        for (int herd = 0; herd <= 3; herd++) {
            Check.due("melodyLength(" + herd + "), empty", 0, x.melodyLength(herd));
            Check.due("melodyLength(" + herd + "), full", 8, y.melodyLength(herd));
        }
    }

    private static void promise32NoSuchHerd() {
        for (int herd : NO_HERDS) {
            Refusal.noIndex("tone(" + herd + ", 0)", x -> x.tone(herd, 0));
        }
    }

    /** "if the melody has no such position" */
    private static void promise32NoSuchPosition() {
        for (int position : new int[] {-1, 8, 9, MIN, MAX}) {
            Refusal.noElement("tone(0, " + position + ")", x -> x.tone(0, position));
            Refusal.noElement("tone(3, " + position + ")", x -> x.tone(3, position));
        }
        Refusal.noElementIn(Valleys::empty, "tone(0, 0), empty", x -> x.tone(0, 0));
        Refusal.noElementIn(Valleys::busy, "tone(1, 0), empty", x -> x.tone(1, 0));
        Refusal.noElementIn(Valleys::busy, "tone(0, 2) of 2", x -> x.tone(0, 2));
        ValleyBells x = Valleys.full();
        x.clearMelody(1);
        Check.noElement("tone(1, 0) after clearMelody", () -> x.tone(1, 0));
    }

    private static void promise32FirstAndLastPosition() {
        ValleyBells x = Valleys.full();
        for (int herd = 0; herd < 4; herd++) {
            for (int k = 0; k < 8; k++) {
                Check.due("tone(" + herd + ", " + k + ")", (4 * k + herd) * 5 % 12, x.tone(herd, k));
            }
        }
    }

    private static void promise32FirstListedException() {
        Refusal.noIndex("tone(4, 8)", x -> x.tone(4, 8));
        Refusal.noIndex("tone(-1, -1)", x -> x.tone(-1, -1));
    }

    private static void promise33Herds() {
        for (int herd : NO_HERDS) {
            Refusal.noIndex("entry(" + herd + ")", x -> x.entry(herd));
        }
        ValleyBells x = Valleys.full();
        for (int herd = 0; herd <= 3; herd++) {
            Check.due("entry(" + herd + ")", 5 * herd, x.entry(herd));
        }
    }

    // ---- canonInterval

    /** "if one of the herds is out of range" */
    private static void promise34NoSuchHerd() {
        for (int herd : NO_HERDS) {
            Refusal.noIndex("canonInterval(" + herd + ", 0)", x -> x.canonInterval(herd, 0));
            Refusal.noIndex("canonInterval(0, " + herd + ")", x -> x.canonInterval(0, herd));
            Refusal.noIndex("canonInterval(" + herd + ", 3)", x -> x.canonInterval(herd, 3));
            Refusal.noIndex("canonInterval(3, " + herd + ")", x -> x.canonInterval(3, herd));
        }
    }

    /** "if the melodies are empty" */
    private static void promise34EmptyMelodies() {
        for (int leader = 0; leader < 4; leader++) {
            for (int follower = 0; follower < 4; follower++) {
                int a = leader;
                int b = follower;
                Refusal.noElementIn(Valleys::empty, "canonInterval(" + a + ", " + b + ")", x -> x.canonInterval(a, b));
            }
        }
        Refusal.noElementIn(Valleys::busy, "canonInterval(1, 1), empty", x -> x.canonInterval(1, 1));
    }

    /** "have different lengths" */
    private static void promise34DifferentLengths() {
        Refusal.noElementIn(Valleys::busy, "canonInterval(0, 2), 2 and 1", x -> x.canonInterval(0, 2));
        Refusal.noElementIn(Valleys::busy, "canonInterval(2, 0), 1 and 2", x -> x.canonInterval(2, 0));
        Refusal.noElementIn(Valleys::busy, "canonInterval(1, 2), 0 and 1", x -> x.canonInterval(1, 2));
        Refusal.noElementIn(Valleys::busy, "canonInterval(2, 1), 1 and 0", x -> x.canonInterval(2, 1));
        ValleyBells x = Valleys.withPitches(6000);
        Valleys.play(x, 0, 0, 0, 0, 0, 0, 0, 0, 0);
        Valleys.play(x, 1, 0, 0, 0, 0, 0, 0, 0);
        Check.noElement("canonInterval(0, 1), 8 and 7", () -> x.canonInterval(0, 1));
        Check.noElement("canonInterval(1, 0), 7 and 8", () -> x.canonInterval(1, 0));
        x.addTone(1, 0);
        Check.due("canonInterval(0, 1), 8 and 8", 0, x.canonInterval(0, 1));
    }

    /** "or the difference is not the same at all positions" */
    private static void promise34NotTheSameAtAllPositions() {
        for (int odd = 0; odd < 8; odd++) {
            ValleyBells x = Valleys.withPitches(6000, 6700, 6800);
            for (int k = 0; k < 8; k++) {
                x.addTone(1, 0);
                x.addTone(2, k == odd ? 2 : 1);
            }
            Check.noElement("canonInterval(1, 2), odd at " + odd, () -> x.canonInterval(1, 2));
            Check.noElement("canonInterval(2, 1), odd at " + odd, () -> x.canonInterval(2, 1));
            x.tune(2, -50);
            Check.noElement("canonInterval(1, 2), 6750 is still odd", () -> x.canonInterval(1, 2));
            x.tune(2, -1);
            Check.due("canonInterval(1, 2), 6749 is not", 7, x.canonInterval(1, 2));
            Check.due("canonInterval(2, 1), 6749 is not", -7, x.canonInterval(2, 1));
        }
        Refusal.noElementIn(Valleys::full, "canonInterval(0, 1), full", x -> x.canonInterval(0, 1));
    }

    private static void promise34OneAndEightTones() {
        ValleyBells x = Valleys.withPitches(6000, 6400);
        x.addTone(0, 0);
        x.addTone(3, 1);
        Check.due("canonInterval(0, 3), one tone", 4, x.canonInterval(0, 3));
        Check.due("canonInterval(3, 0), one tone", -4, x.canonInterval(3, 0));
        for (int k = 1; k < 8; k++) {
            x.addTone(0, 0);
            x.addTone(3, 1);
        }
        Check.due("canonInterval(0, 3), eight tones", 4, x.canonInterval(0, 3));
        x.setEntry(0, 15);
        Check.due("canonInterval(0, 3), another entry", 4, x.canonInterval(0, 3));
    }

    private static void promise34LeastAndMost() {
        ValleyBells x = Valleys.withPitches(3600, 8400);
        x.addTone(0, 0);
        x.addTone(1, 1);
        Check.due("canonInterval(0, 1), the most", 48, x.canonInterval(0, 1));
        Check.due("canonInterval(1, 0), the least", -48, x.canonInterval(1, 0));
    }

    /** "possibly the same" */
    private static void promise34TheSameHerd() {
        ValleyBells x = Valleys.full();
        for (int herd = 0; herd < 4; herd++) {
            Check.due("canonInterval(" + herd + ", " + herd + ")", 0, x.canonInterval(herd, herd));
        }
    }

    private static void promise34FirstListedException() {
        Refusal.noIndexIn(Valleys::empty, "canonInterval(0, 4), empty", x -> x.canonInterval(0, 4));
        Refusal.noIndexIn(Valleys::empty, "canonInterval(-1, 0), empty", x -> x.canonInterval(-1, 0));
        Refusal.noIndexIn(Valleys::busy, "canonInterval(1, 4), one empty", x -> x.canonInterval(1, 4));
    }

    // ---- cliffCount, delay and transposition

    /** "the number, 0 to 4" */
    private static void promise35NoneAndFour() {
        ValleyBells x = new ValleyBells();
        for (int k = 0; k < 4; k++) {
            Check.due("cliffCount", k, x.cliffCount());
            x.addCliff(1, 0);
        }
        Check.due("cliffCount, full", 4, x.cliffCount());
        Check.badState("addCliff", () -> x.addCliff(1, 0));
        Check.due("cliffCount after a refusal", 4, x.cliffCount());
        for (int k = 3; k >= 0; k--) {
            x.removeCliff(0);
            Check.due("cliffCount", k, x.cliffCount());
        }
        Check.noIndex("removeCliff", () -> x.removeCliff(0));
        Check.due("cliffCount after a refusal", 0, x.cliffCount());
    }

    private static void promises36And37NoSuchCliff() {
        for (int cliff : new int[] {-1, 4, 5, MIN, MAX}) {
            Refusal.noIndex("delay(" + cliff + ")", x -> x.delay(cliff));
            Refusal.noIndex("transposition(" + cliff + ")", x -> x.transposition(cliff));
        }
        Refusal.noIndexIn(Valleys::empty, "delay(0), no cliffs", x -> x.delay(0));
        Refusal.noIndexIn(Valleys::empty, "transposition(0), no cliffs", x -> x.transposition(0));
        Refusal.noIndexIn(Valleys::busy, "delay(2) of 2", x -> x.delay(2));
        Refusal.noIndexIn(Valleys::busy, "transposition(2) of 2", x -> x.transposition(2));
    }

    private static void promises36And37FirstAndLast() {
        ValleyBells x = Valleys.full();
        for (int k = 0; k < 4; k++) {
            Check.due("delay(" + k + ")", 8 - 2 * k, x.delay(k));
            Check.due("transposition(" + k + ")", 12 - 8 * k, x.transposition(k));
        }
    }
}
