/** The boundary cases of promises 7, 8 and 26 to 30, a test for each sentence that names one. */
final class KeyBoundsTest {
    private static final int MIN = Integer.MIN_VALUE;
    private static final int MAX = Integer.MAX_VALUE;
    private static final int[] OUT_OF_CLASSES = {-1, 12, -12, 13, MIN, MAX};
    private static final int[][] SCALES = {{0, 2, 4, 5, 7, 9, 11}, {0, 2, 3, 5, 7, 8, 10}};

    public static void main(String[] args) {
        promise7Tonics();
        promise7NoneAndAllInKey();
        promise7AtTheTolerance();
        promise7ScaleWrapsAround();
        promise8Cents();
        promise8PreviousTolerance();
        promises26To28AtTheirLimits();
        promise29PitchClasses();
        promise29ScaleWrapsAround();
        promise30NoBells();
        promise30NoBellInKey();
        promise30FirstAndLastTonic();
        promise30LowestOfSeveral();
        promise30PresentTolerance();
        promise30ChangesNothing();
        Check.finish("KeyBoundsTest");
    }

    private static boolean contains(int[] steps, int step) {
        for (int each : steps) {
            if (each == step) {
                return true;
            }
        }
        return false;
    }

    // ---- setKey

    /** "the tonic, 0 to 11" */
    private static void promise7Tonics() {
        ValleyBells x = new ValleyBells();
        for (int tonic : new int[] {11, 0, 10, 1}) {
            for (boolean isMinor : new boolean[] {true, false}) {
                Check.due("setKey(" + tonic + ", " + isMinor + ")", 0, x.setKey(tonic, isMinor));
                Check.due("tonic", tonic, x.tonic());
                Check.due("isMinor", isMinor, x.isMinor());
            }
        }
        for (int tonic : OUT_OF_CLASSES) {
            Refusal.badArgument("setKey(" + tonic + ", false)", y -> y.setKey(tonic, false));
            Refusal.badArgument("setKey(" + tonic + ", true)", y -> y.setKey(tonic, true));
        }
    }

    /** "the number of bells in key after the call" */
    private static void promise7NoneAndAllInKey() {
        ValleyBells x = new ValleyBells();
        Check.due("setKey(0, false), no bells", 0, x.setKey(0, false));
        for (int k = 0; k < 12; k++) {
            x.addBell(k % 4, 6100);
        }
        Check.due("setKey(0, false), C# in C major", 0, x.setKey(0, false));
        Check.due("setKey(1, false), C# in C# major", 12, x.setKey(1, false));
        Check.due("setKey(1, false) again", 12, x.setKey(1, false));
        Check.due("setKey(0, true), C# in C minor", 0, x.setKey(0, true));
    }

    private static void promise7AtTheTolerance() {
        ValleyBells x = Valleys.withPitches(6010, 5990, 6011, 5989);
        Check.due("setKey(0, false), tolerance 10", 2, x.setKey(0, false));
        x.setTolerance(11);
        Check.due("setKey(0, false), tolerance 11", 4, x.setKey(0, false));
        x.setTolerance(9);
        Check.due("setKey(0, false), tolerance 9", 0, x.setKey(0, false));
    }

    /** "(tonic + s) mod 12": each bell of an octave in each key */
    private static void promise7ScaleWrapsAround() {
        for (int mode = 0; mode < 2; mode++) {
            for (int tonic = 0; tonic < 12; tonic++) {
                ValleyBells x = new ValleyBells();
                for (int k = 0; k < 12; k++) {
                    x.addBell(0, 3600 + 400 * k);
                }
                // Every fourth note from C on: C, E and G#, each 4 times.
                int due = 0;
                for (int note = 0; note < 12; note += 4) {
                    due += contains(SCALES[mode], (note - tonic + 12) % 12) ? 4 : 0;
                }
                Check.due("setKey(" + tonic + ", " + (mode == 1) + ")", due, x.setKey(tonic, mode == 1));
            }
        }
    }

    // ---- setTolerance

    /** "the tolerance in cents, 0 to 50" */
    private static void promise8Cents() {
        ValleyBells x = Valleys.withPitches(6000, 6001, 6049, 5951, 5950);
        int[][] rows = {{0, 10, 1}, {1, 0, 2}, {48, 1, 2}, {49, 48, 4}, {50, 49, 5}};
        for (int[] row : rows) {
            Check.due("setTolerance(" + row[0] + ")", row[1], x.setTolerance(row[0]));
            Check.due("tolerance", row[0], x.tolerance());
            Check.due("bells in key at " + row[0], row[2], x.setKey(0, false));
        }
        for (int cents : new int[] {-1, 51, -50, 100, MIN, MAX}) {
            Refusal.badArgument("setTolerance(" + cents + ")", y -> y.setTolerance(cents));
        }
    }

    /** "Returns the previous tolerance." */
    private static void promise8PreviousTolerance() {
        ValleyBells x = new ValleyBells();
        Check.due("setTolerance(10), as it was", 10, x.setTolerance(10));
        Check.due("setTolerance(50)", 10, x.setTolerance(50));
        Check.badArgument("setTolerance(51)", () -> x.setTolerance(51));
        Check.due("setTolerance(50), after a refusal", 50, x.setTolerance(50));
        Check.due("setTolerance(0)", 50, x.setTolerance(0));
        Check.due("setTolerance(0), as it was", 0, x.setTolerance(0));
    }

    private static void promises26To28AtTheirLimits() {
        ValleyBells x = new ValleyBells();
        x.setKey(11, true);
        x.setTolerance(50);
        Check.due("tonic", 11, x.tonic());
        Check.due("isMinor", true, x.isMinor());
        Check.due("tolerance", 50, x.tolerance());
        x.setKey(0, false);
        x.setTolerance(0);
        Check.due("tonic", 0, x.tonic());
        Check.due("isMinor", false, x.isMinor());
        Check.due("tolerance", 0, x.tolerance());
    }

    // ---- isInScale

    /** "the pitch class, 0 to 11" */
    private static void promise29PitchClasses() {
        ValleyBells x = new ValleyBells();
        Check.due("isInScale(0) in C major", true, x.isInScale(0));
        Check.due("isInScale(11) in C major", true, x.isInScale(11));
        x.setKey(0, true);
        Check.due("isInScale(0) in C minor", true, x.isInScale(0));
        Check.due("isInScale(11) in C minor", false, x.isInScale(11));
        for (int pitchClass : OUT_OF_CLASSES) {
            Refusal.badArgument("isInScale(" + pitchClass + ")", y -> y.isInScale(pitchClass));
        }
    }

    /** "(tonic + s) mod 12" */
    private static void promise29ScaleWrapsAround() {
        for (int mode = 0; mode < 2; mode++) {
            for (int tonic = 0; tonic < 12; tonic++) {
                ValleyBells x = new ValleyBells();
                x.setKey(tonic, mode == 1);
                boolean[] due = new boolean[12];
                for (int step : SCALES[mode]) {
                    due[(tonic + step) % 12] = true;
                }
                for (int k = 0; k < 12; k++) {
                    Check.due("isInScale(" + k + "), tonic " + tonic + ", mode " + mode, due[k], x.isInScale(k));
                }
            }
        }
    }

    // ---- bestTonic

    private static void promise30NoBells() {
        ValleyBells x = new ValleyBells();
        x.setKey(11, true);
        Check.due("bestTonic(false), no bells", 0, x.bestTonic(false));
        Check.due("bestTonic(true), no bells", 0, x.bestTonic(true));
    }

    /** No tonic has a bell in key, so all have equally many. */
    private static void promise30NoBellInKey() {
        ValleyBells x = Valleys.withPitches(6111, 6089, 6650);
        Check.due("bestTonic(false), all out of tune", 0, x.bestTonic(false));
        Check.due("bestTonic(true), all out of tune", 0, x.bestTonic(true));
        Check.due("undo", 2, x.undo());
    }

    private static void promise30FirstAndLastTonic() {
        for (int mode = 0; mode < 2; mode++) {
            for (int tonic = 0; tonic < 12; tonic++) {
                ValleyBells x = new ValleyBells();
                for (int step : SCALES[mode]) {
                    x.addBell(0, 3600 + 100 * (tonic + step));
                }
                Check.due("bestTonic, the scale of " + tonic, tonic, x.bestTonic(mode == 1));
                // The scale of a minor key is that of the major key 3 semitones higher.
                int relative = (mode == 1 ? tonic + 3 : tonic + 9) % 12;
                Check.due("bestTonic, the other mode", relative, x.bestTonic(mode == 0));
            }
        }
    }

    /** "Of several such tonics the lowest one is returned." */
    private static void promise30LowestOfSeveral() {
        int[][] rows = {{6000, 0, 0}, {6100, 1, 1}, {6200, 0, 0}, {6300, 1, 0}, {6600, 1, 1}, {6800, 1, 0},
            {7000, 1, 0}, {7100, 0, 1}};
        for (int[] row : rows) {
            ValleyBells x = Valleys.withPitches(row[0]);
            Check.due("bestTonic(false), one bell at " + row[0], row[1], x.bestTonic(false));
            Check.due("bestTonic(true), one bell at " + row[0], row[2], x.bestTonic(true));
        }
        // C, C#, D: at most two are in a major scale, first in that of C.
        Check.due("bestTonic of C C# D", 0, Valleys.withPitches(6000, 6100, 6200).bestTonic(false));
        Check.due("bestTonic of C C# F#", 1, Valleys.withPitches(6000, 6100, 6600).bestTonic(false));
        Check.due("bestTonic of E F# B, E twice", 2, Valleys.withPitches(6400, 6600, 7100, 6400).bestTonic(false));
    }

    /** "with the present tolerance" */
    private static void promise30PresentTolerance() {
        ValleyBells x = Valleys.withPitches(6149, 6649, 6400);
        Check.due("bestTonic(false), tolerance 10", 0, x.bestTonic(false));
        x.setTolerance(48);
        Check.due("bestTonic(false), tolerance 48", 0, x.bestTonic(false));
        x.setTolerance(49);
        Check.due("bestTonic(false), tolerance 49", 2, x.bestTonic(false));
        ValleyBells low = Valleys.withPitches(6050);
        low.setTolerance(49);
        Check.due("bestTonic(false), -50 at 49", 0, low.bestTonic(false));
        low.setTolerance(50);
        Check.due("bestTonic(false), -50 at 50", 1, low.bestTonic(false));
    }

    private static void promise30ChangesNothing() {
        ValleyBells x = Valleys.busy();
        String before = Valleys.state(x);
        x.bestTonic(false);
        x.bestTonic(true);
        Check.due("state after bestTonic", before, Valleys.state(x));
        Check.due("undo after bestTonic", 6, x.undo());
    }
}
