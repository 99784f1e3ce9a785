import java.util.function.Supplier;

/** Valleys to begin with, and all that can be asked of one, as a text. */
final class Valleys {
    /** 60 characters; the text of a full valley. */
    static final String FULL_TEXT = "tolerance 11;key 02m;entry 0 09;entry 1 10;clear 2;tune 01+1";

    private Valleys() {
    }

    static ValleyBells empty() {
        return new ValleyBells();
    }

    /** All that a call can change differs from a new object, and from what is saved. */
    static ValleyBells busy() {
        ValleyBells x = busyWithoutText();
        Check.type(x, "key 7");
        return x;
    }

    static ValleyBells busyWithoutText() {
        ValleyBells x = new ValleyBells();
        x.addBell(1, 6000);
        x.addBell(3, 6412);
        x.setTolerance(7);
        x.addTone(2, 1);
        x.save();
        x.addBell(0, 3600);
        x.addBell(2, 8400);
        x.addBell(0, 6650);
        x.setKey(10, true);
        x.addTone(0, 4);
        x.addTone(0, 1);
        x.addTone(3, 2);
        x.setEntry(0, 4);
        x.setEntry(3, 15);
        x.addCliff(3, -5);
        x.addCliff(8, 12);
        x.setTolerance(12);
        failBothWays(x);
        x.undo();
        x.writeBell(1);
        return x;
    }

    /** As many bells, tones, cliffs, characters and calls to undo as there can be. */
    static ValleyBells full() {
        ValleyBells x = fullWithoutText();
        Check.type(x, FULL_TEXT);
        return x;
    }

    static ValleyBells fullWithoutText() {
        ValleyBells x = new ValleyBells();
        fillBells(x);
        x.save();
        fillMelodies(x);
        for (int herd = 0; herd < 4; herd++) {
            x.setEntry(herd, 5 * herd);
        }
        fillCliffs(x);
        failBothWays(x);
        x.writeBell(11);
        return x;
    }

    static void fillBells(ValleyBells x) {
        for (int k = 0; k < 12; k++) {
            x.addBell(k % 4, 8400 - 399 * k);
        }
    }

    static void fillMelodies(ValleyBells x) {
        for (int k = 0; k < 32; k++) {
            x.addTone(k % 4, k * 5 % 12);
        }
    }

    static void fillCliffs(ValleyBells x) {
        for (int k = 0; k < 4; k++) {
            x.addCliff(8 - 2 * k, 12 - 8 * k);
        }
    }

    /** The error position is 4 afterwards, and the failed command 1. */
    private static void failBothWays(ValleyBells x) {
        Check.type(x, "key x");
        Check.badArgument("run of \"key x\"", () -> x.run());
        Check.type(x, "key 9M;fell 9");
        Check.refused("run of \"key 9M;fell 9\"", UnsupportedOperationException.class, () -> x.run());
    }

    static ValleyBells withPitches(int... pitches) {
        ValleyBells x = new ValleyBells();
        for (int pitch : pitches) {
            x.addBell(0, pitch);
        }
        return x;
    }

    static void play(ValleyBells x, int herd, int... bells) {
        for (int bell : bells) {
            x.addTone(herd, bell);
        }
    }

    /** All that undo, save and restore concern. */
    static String state(ValleyBells x) {
        StringBuilder text = new StringBuilder();
        text.append(x.tonic()).append(x.isMinor()).append(x.tolerance());
        int bells = x.bellCount();
        for (int bell = 0; bell < bells; bell++) {
            text.append(" b").append(x.herdOf(bell)).append(':').append(x.pitch(bell));
        }
        for (int herd = 0; herd < 4; herd++) {
            text.append(" m").append(x.entry(herd));
            int tones = x.melodyLength(herd);
            for (int k = 0; k < tones; k++) {
                text.append(',').append(x.tone(herd, k));
            }
        }
        int cliffs = x.cliffCount();
        for (int cliff = 0; cliff < cliffs; cliff++) {
            text.append(" c").append(x.delay(cliff)).append(':').append(x.transposition(cliff));
        }
        return text.toString();
    }

    /** The state, the output line, and what is computed from the state; some 250 calls at most. */
    static String answers(ValleyBells x) {
        StringBuilder text = new StringBuilder(state(x));
        text.append(" line ").append(Check.line(x));
        int bells = x.bellCount();
        for (int k = 0; k < bells; k++) {
            text.append(" b").append(x.nearestNote(k)).append(',').append(x.deviation(k)).append(',')
                .append(x.isInKey(k)).append(',').append(x.centsToKey(k)).append(',')
                .append(x.centsToKeyByNotes(k)).append(',').append(x.bellAtRank(k));
        }
        for (int k = 0; k < 12; k++) {
            text.append(' ').append(x.isInScale(k));
        }
        for (int k = 0; k < 16; k++) {
            int leader = k / 4;
            int follower = k % 4;
            text.append(' ').append(answer(() -> x.canonInterval(leader, follower)));
        }
        for (int beat = 0; beat <= 31; beat++) {
            text.append(' ').append(x.chordSize(beat));
        }
        text.append(' ').append(x.isTuned()).append(x.isConsistent());
        text.append(' ').append(x.bestTonic(false)).append(' ').append(x.bestTonic(true));
        text.append(' ').append(answer(() -> x.meanDeviation())).append(answer(() -> x.inKeyShare()));
        text.append(' ').append(answer(() -> x.lastBeat())).append(answer(() -> x.harshestBeat()));
        return text.append(' ').append(x.totalDissonances()).toString();
    }

    static String errorPosition(ValleyBells x) {
        return answer(() -> x.errorPosition());
    }

    static String failedCommand(ValleyBells x) {
        return answer(() -> x.failedCommand());
    }

    /** The answer, or the name of the exception. */
    static String answer(Supplier<Object> call) {
        try {
            return String.valueOf(call.get());
        } catch (RuntimeException e) {
            return "throws." + e.getClass().getSimpleName();
        }
    }
}
