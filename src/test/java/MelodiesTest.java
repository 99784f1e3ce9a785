/** Promises 9 to 13 and 31 to 37. */
final class MelodiesTest {
    public static void main(String[] args) {
        promise9AddTone();
        promise10ClearMelody();
        promise11SetEntry();
        promise12AddCliff();
        promise13RemoveCliff();
        promises31And32();
        promise33Entry();
        promise34CanonInterval();
        promise34NoCanon();
        promises35To37();
        Check.finish("MelodiesTest");
    }

    private static ValleyBells with(int... pitches) {
        ValleyBells x = new ValleyBells();
        for (int pitch : pitches) {
            x.addBell(0, pitch);
        }
        return x;
    }

    private static void play(ValleyBells x, int herd, int... bells) {
        for (int bell : bells) {
            x.addTone(herd, bell);
        }
    }

    private static void promise9AddTone() {
        ValleyBells x = with(6000, 6100);
        for (int k = 1; k <= 8; k++) {
            Check.due("addTone(3, ..)", k, x.addTone(3, k % 2));
        }
        Check.badState("addTone, the 9th", () -> x.addTone(3, 0));
        Check.noIndex("addTone(3, 2), full", () -> x.addTone(3, 2));
        Check.noIndex("addTone(4, 0)", () -> x.addTone(4, 0));
        Check.noIndex("addTone(-1, 0)", () -> x.addTone(-1, 0));
        Check.noIndex("addTone(0, 2)", () -> x.addTone(0, 2));
        Check.noIndex("addTone(0, -1)", () -> x.addTone(0, -1));
        Check.due("melodyLength(3)", 8, x.melodyLength(3));
        Check.due("tone(3, 0)", 1, x.tone(3, 0));
        Check.due("tone(3, 7)", 0, x.tone(3, 7));
        Check.due("addTone(0, 1): a bell may sound in each melody", 1, x.addTone(0, 1));
        Check.due("addTone(1, 1): and in that of another herd", 1, x.addTone(1, 1));
    }

    private static void promise10ClearMelody() {
        ValleyBells x = with(6000);
        play(x, 2, 0, 0, 0);
        play(x, 1, 0);
        x.setEntry(2, 7);
        Check.due("clearMelody(2)", 3, x.clearMelody(2));
        Check.due("clearMelody(2)", 0, x.clearMelody(2));
        Check.due("melodyLength(2)", 0, x.melodyLength(2));
        Check.due("melodyLength(1)", 1, x.melodyLength(1));
        Check.due("entry(2)", 7, x.entry(2));
        Check.noIndex("clearMelody(4)", () -> x.clearMelody(4));
        Check.noIndex("clearMelody(-1)", () -> x.clearMelody(-1));
    }

    private static void promise11SetEntry() {
        ValleyBells x = new ValleyBells();
        Check.due("setEntry(0, 15)", 0, x.setEntry(0, 15));
        Check.due("setEntry(0, 0)", 15, x.setEntry(0, 0));
        Check.due("setEntry(3, 4)", 0, x.setEntry(3, 4));
        Check.due("setEntry(3, 4)", 4, x.setEntry(3, 4));
        Check.noIndex("setEntry(4, 16)", () -> x.setEntry(4, 16));
        Check.noIndex("setEntry(-1, 1)", () -> x.setEntry(-1, 1));
        Check.badArgument("setEntry(0, 16)", () -> x.setEntry(0, 16));
        Check.badArgument("setEntry(0, -1)", () -> x.setEntry(0, -1));
        Check.due("entry(0)", 0, x.entry(0));
        Check.due("entry(3)", 4, x.entry(3));
    }

    private static void promise12AddCliff() {
        ValleyBells x = new ValleyBells();
        Check.badArgument("addCliff(0, 0)", () -> x.addCliff(0, 0));
        Check.badArgument("addCliff(9, 0)", () -> x.addCliff(9, 0));
        Check.badArgument("addCliff(1, 13)", () -> x.addCliff(1, 13));
        Check.badArgument("addCliff(1, -13)", () -> x.addCliff(1, -13));
        Check.badArgument("addCliff(MIN, MAX)", () -> x.addCliff(Integer.MIN_VALUE, Integer.MAX_VALUE));
        Check.due("addCliff(1, -12)", 0, x.addCliff(1, -12));
        Check.due("addCliff(8, 12)", 1, x.addCliff(8, 12));
        Check.due("addCliff(8, 12)", 2, x.addCliff(8, 12));
        Check.due("addCliff(3, 0)", 3, x.addCliff(3, 0));
        Check.badState("addCliff, the 5th", () -> x.addCliff(1, 0));
        Check.badArgument("addCliff(0, 0), full", () -> x.addCliff(0, 0));
        Check.due("cliffCount", 4, x.cliffCount());
        Check.due("delay(0)", 1, x.delay(0));
        Check.due("transposition(0)", -12, x.transposition(0));
        Check.due("delay(3)", 3, x.delay(3));
    }

    private static void promise13RemoveCliff() {
        ValleyBells x = new ValleyBells();
        Check.noIndex("removeCliff(0)", () -> x.removeCliff(0));
        for (int k = 1; k <= 4; k++) {
            x.addCliff(k, -k);
        }
        Check.noIndex("removeCliff(4)", () -> x.removeCliff(4));
        Check.noIndex("removeCliff(-1)", () -> x.removeCliff(-1));
        Check.due("removeCliff(1)", 3, x.removeCliff(1));
        Check.due("delay(0)", 1, x.delay(0));
        Check.due("delay(1)", 3, x.delay(1));
        Check.due("transposition(1)", -3, x.transposition(1));
        Check.due("delay(2)", 4, x.delay(2));
        Check.due("transposition(2)", -4, x.transposition(2));
        Check.noIndex("delay(3)", () -> x.delay(3));
        Check.due("removeCliff(2)", 2, x.removeCliff(2));
        Check.due("removeCliff(0)", 1, x.removeCliff(0));
        Check.due("delay(0)", 3, x.delay(0));
        Check.due("removeCliff(0)", 0, x.removeCliff(0));
    }

    private static void promises31And32() {
        ValleyBells x = with(6000, 6100, 6200);
        play(x, 1, 2, 0, 2, 1);
        Check.due("melodyLength(1)", 4, x.melodyLength(1));
        Check.due("melodyLength(0)", 0, x.melodyLength(0));
        int[] due = {2, 0, 2, 1};
        for (int k = 0; k < due.length; k++) {
            Check.due("tone(1, " + k + ")", due[k], x.tone(1, k));
        }
        Check.noIndex("melodyLength(4)", () -> x.melodyLength(4));
        Check.noIndex("melodyLength(-1)", () -> x.melodyLength(-1));
        Check.noElement("tone(1, 4)", () -> x.tone(1, 4));
        Check.noElement("tone(1, -1)", () -> x.tone(1, -1));
        Check.noElement("tone(0, 0)", () -> x.tone(0, 0));
        Check.noElement("tone(1, MIN)", () -> x.tone(1, Integer.MIN_VALUE));
        Check.noElement("tone(1, MAX)", () -> x.tone(1, Integer.MAX_VALUE));
        Check.noIndex("tone(4, 9)", () -> x.tone(4, 9));
        Check.noIndex("tone(-1, 0)", () -> x.tone(-1, 0));
    }

    private static void promise33Entry() {
        ValleyBells x = new ValleyBells();
        x.setEntry(1, 9);
        Check.due("entry(1)", 9, x.entry(1));
        Check.due("entry(2)", 0, x.entry(2));
        Check.noIndex("entry(4)", () -> x.entry(4));
        Check.noIndex("entry(-1)", () -> x.entry(-1));
    }

    private static void promise34CanonInterval() {
        ValleyBells x = with(6000, 6200, 6449, 6700, 6900, 7100);
        play(x, 0, 0, 1, 2);
        play(x, 2, 3, 4, 5);
        Check.due("canonInterval(0, 2)", 7, x.canonInterval(0, 2));
        Check.due("canonInterval(2, 0)", -7, x.canonInterval(2, 0));
        Check.due("canonInterval(2, 2)", 0, x.canonInterval(2, 2));
        x.setEntry(2, 5);
        Check.due("canonInterval(0, 2): entries do not matter", 7, x.canonInterval(0, 2));
        x.tune(2, 1);
        Check.noElement("canonInterval(0, 2): the last tone is off", () -> x.canonInterval(0, 2));
        ValleyBells one = with(3600, 8400);
        play(one, 1, 0);
        play(one, 3, 1);
        Check.due("canonInterval(1, 3)", 48, one.canonInterval(1, 3));
        Check.due("canonInterval(3, 1)", -48, one.canonInterval(3, 1));
    }

    private static void promise34NoCanon() {
        ValleyBells x = with(6000, 6700);
        Check.noElement("canonInterval(0, 1), both empty", () -> x.canonInterval(0, 1));
        Check.noElement("canonInterval(0, 0), empty", () -> x.canonInterval(0, 0));
        play(x, 0, 0, 0);
        Check.noElement("canonInterval(0, 1), one empty", () -> x.canonInterval(0, 1));
        Check.noElement("canonInterval(1, 0), one empty", () -> x.canonInterval(1, 0));
        play(x, 1, 1);
        Check.noElement("canonInterval(0, 1), lengths 2 and 1", () -> x.canonInterval(0, 1));
        Check.noElement("canonInterval(1, 0), lengths 1 and 2", () -> x.canonInterval(1, 0));
        play(x, 1, 0);
        Check.noElement("canonInterval(0, 1), 7 and 0", () -> x.canonInterval(0, 1));
        Check.noIndex("canonInterval(4, 0)", () -> x.canonInterval(4, 0));
        Check.noIndex("canonInterval(0, 4)", () -> x.canonInterval(0, 4));
        Check.noIndex("canonInterval(-1, 0)", () -> x.canonInterval(-1, 0));
        Check.noIndex("canonInterval(2, -1), empty", () -> x.canonInterval(2, -1));
    }

    private static void promises35To37() {
        ValleyBells x = new ValleyBells();
        Check.due("cliffCount", 0, x.cliffCount());
        x.addCliff(2, 5);
        x.addCliff(8, -12);
        Check.due("cliffCount", 2, x.cliffCount());
        Check.due("delay(0)", 2, x.delay(0));
        Check.due("delay(1)", 8, x.delay(1));
        Check.due("transposition(0)", 5, x.transposition(0));
        Check.due("transposition(1)", -12, x.transposition(1));
        int[] wrong = {-1, 2, 4, Integer.MIN_VALUE, Integer.MAX_VALUE};
        for (int cliff : wrong) {
            Check.noIndex("delay(" + cliff + ")", () -> x.delay(cliff));
            Check.noIndex("transposition(" + cliff + ")", () -> x.transposition(cliff));
        }
    }
}
