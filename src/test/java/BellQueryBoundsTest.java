/** The boundary cases of promises 14 to 25, a test for each sentence that names one. */
final class BellQueryBoundsTest {
    private static final int MIN = Integer.MIN_VALUE;
    private static final int MAX = Integer.MAX_VALUE;
    private static final String[] SCALES = {"101011010101", "101101011010"};

    public static void main(String[] args) {
        promise14NoneAndTwelve();
        noSuchBell();
        firstAndLastBell();
        promises17And18EachPitch();
        promises17And18WhereTheNoteChanges();
        promise19AtTheTolerance();
        promise19AtTheLimitsOfTolerances();
        promise20NoBells();
        promise20OneOfTwelve();
        promises21And22EachPitchInEachKey();
        promises21And22Nothing();
        promises21And22OfTwoThePositive();
        promises21And22BesideTheMiddle();
        promises21And22BeyondTheLimitsOfPitches();
        promise23Ranks();
        promise23NoBells();
        promise23EqualPitches();
        promise23AfterChanges();
        promise24NoBells();
        promise24LeastAndMost();
        promise24Quotients();
        promise25NoBells();
        promise25LeastAndMost();
        promise25Quotients();
        Check.finish("BellQueryBoundsTest");
    }

    /** "the number, 0 to 12" */
    private static void promise14NoneAndTwelve() {
        ValleyBells x = new ValleyBells();
        Check.due("bellCount, no bells", 0, x.bellCount());
        Valleys.fillBells(x);
        Check.due("bellCount, full", 12, x.bellCount());
        Check.badState("addBell", () -> x.addBell(0, 6000));
        Check.due("bellCount after a refusal", 12, x.bellCount());
        for (int k = 11; k >= 0; k--) {
            x.removeBell(k / 2);
            Check.due("bellCount", k, x.bellCount());
        }
        Check.noIndex("removeBell", () -> x.removeBell(0));
        Check.due("bellCount after a refusal", 0, x.bellCount());
    }

    /** "if there is no such bell", for promises 15 to 19, 21 and 22 */
    private static void noSuchBell() {
        for (int bell : new int[] {-1, 12, 13, MIN, MAX}) {
            dueNoIndex(bell, true);
        }
        Refusal.noIndexIn(Valleys::empty, "herdOf(0), no bells", x -> x.herdOf(0));
        Refusal.noIndexIn(Valleys::empty, "pitch(0), no bells", x -> x.pitch(0));
        Refusal.noIndexIn(Valleys::empty, "nearestNote(0), no bells", x -> x.nearestNote(0));
        Refusal.noIndexIn(Valleys::empty, "deviation(0), no bells", x -> x.deviation(0));
        Refusal.noIndexIn(Valleys::empty, "isInKey(0), no bells", x -> x.isInKey(0));
        Refusal.noIndexIn(Valleys::empty, "centsToKey(0), no bells", x -> x.centsToKey(0));
        Refusal.noIndexIn(Valleys::empty, "centsToKeyByNotes(0), no bells", x -> x.centsToKeyByNotes(0));
        dueNoIndex(5, false);
    }

    /** A busy valley has 5 bells. */
    private static void dueNoIndex(int bell, boolean everywhere) {
        Refusal.Call[] calls = {x -> x.herdOf(bell), x -> x.pitch(bell), x -> x.nearestNote(bell),
            x -> x.deviation(bell), x -> x.isInKey(bell), x -> x.centsToKey(bell), x -> x.centsToKeyByNotes(bell)};
        String[] names = {"herdOf", "pitch", "nearestNote", "deviation", "isInKey", "centsToKey",
            "centsToKeyByNotes"};
        for (int k = 0; k < calls.length; k++) {
            String name = names[k] + "(" + bell + ")";
            if (everywhere) {
                Refusal.noIndex(name, calls[k]);
            } else {
                Refusal.noIndexIn(Valleys::busy, name, calls[k]);
            }
        }
    }

    private static void firstAndLastBell() {
        ValleyBells x = Valleys.full();
        int[][] rows = {{0, 0, 8400, 84, 0, 1, 0}, {11, 3, 4011, 40, 11, 0, -11}};
        for (int[] row : rows) {
            int bell = row[0];
            Check.due("herdOf(" + bell + ")", row[1], x.herdOf(bell));
            Check.due("pitch(" + bell + ")", row[2], x.pitch(bell));
            Check.due("nearestNote(" + bell + ")", row[3], x.nearestNote(bell));
            Check.due("deviation(" + bell + ")", row[4], x.deviation(bell));
            Check.due("isInKey(" + bell + ")", row[5] == 1, x.isInKey(bell));
            Check.due("centsToKey(" + bell + ")", row[6], x.centsToKey(bell));
            Check.due("centsToKeyByNotes(" + bell + ")", row[6], x.centsToKeyByNotes(bell));
        }
    }

    // ---- nearestNote and deviation

    /** The note moves on by counting, so that no division is needed. */
    private static void promises17And18EachPitch() {
        int note = 36;
        for (int pitch = 3600; pitch <= 8400; pitch++) {
            if (pitch - 100 * note == 50) {
                note++;
            }
            ValleyBells x = Valleys.withPitches(pitch);
            Check.due("nearestNote of " + pitch, note, x.nearestNote(0));
            Check.due("deviation of " + pitch, pitch - 100 * note, x.deviation(0));
        }
        Check.due("the last note", 84, note);
    }

    /** "it is from -50 to 49" */
    private static void promises17And18WhereTheNoteChanges() {
        int[][] rows = {{3600, 36, 0}, {3649, 36, 49}, {3650, 37, -50}, {6949, 69, 49}, {6950, 70, -50},
            {8349, 83, 49}, {8350, 84, -50}, {8400, 84, 0}};
        for (int[] row : rows) {
            ValleyBells x = Valleys.withPitches(row[0]);
            Check.due("nearestNote of " + row[0], row[1], x.nearestNote(0));
            Check.due("deviation of " + row[0], row[2], x.deviation(0));
        }
        ValleyBells moving = Valleys.withPitches(6049);
        moving.tune(0, 1);
        Check.due("nearestNote after tune", 61, moving.nearestNote(0));
        moving.graze(0, 1);
        Check.due("nearestNote after graze", 60, moving.nearestNote(0));
        moving.undo();
        Check.due("deviation after undo", -50, moving.deviation(0));
    }

    // ---- isInKey

    /** "the absolute value of its deviation is at most the tolerance" */
    private static void promise19AtTheTolerance() {
        for (int tolerance = 0; tolerance <= 50; tolerance++) {
            for (int cents = -50; cents <= 49; cents += 1) {
                ValleyBells x = Valleys.withPitches(6000 + cents, 6100 + cents);
                x.setTolerance(tolerance);
                boolean due = Math.max(cents, -cents) <= tolerance;
                Check.due("isInKey, C and " + cents + " at " + tolerance, due, x.isInKey(0));
                Check.due("isInKey, C# and " + cents + " at " + tolerance, false, x.isInKey(1));
            }
        }
    }

    private static void promise19AtTheLimitsOfTolerances() {
        ValleyBells x = Valleys.withPitches(5950, 5949, 6049, 6050, 6000);
        x.setTolerance(50);
        boolean[] due = {true, true, true, false, true};
        for (int k = 0; k < due.length; k++) {
            Check.due("isInKey(" + k + ") at 50", due[k], x.isInKey(k));
        }
        x.setTolerance(0);
        for (int k = 0; k < due.length; k++) {
            Check.due("isInKey(" + k + ") at 0", k == 4, x.isInKey(k));
        }
    }

    // ---- isTuned

    /** "also if there are no bells" */
    private static void promise20NoBells() {
        ValleyBells x = new ValleyBells();
        Check.due("isTuned, no bells", true, x.isTuned());
        x.addBell(0, 6100);
        Check.due("isTuned, one bell out of key", false, x.isTuned());
        x.removeBell(0);
        Check.due("isTuned, no bells again", true, x.isTuned());
    }

    private static void promise20OneOfTwelve() {
        for (int odd = 0; odd < 12; odd++) {
            ValleyBells x = new ValleyBells();
            for (int k = 0; k < 12; k++) {
                x.addBell(k % 4, k == odd ? 6011 : 6010);
            }
            Check.due("isTuned, only bell " + odd + " out of key", false, x.isTuned());
            x.tune(odd, -1);
            Check.due("isTuned, twelve bells in key", true, x.isTuned());
        }
    }

    // ---- centsToKey and centsToKeyByNotes

    /** The nearest note of the scale, from a table that reaches beyond the limits of pitches. */
    private static int nearestInScale(int pitch, int tonic, String scale) {
        int best = 10_000;
        for (int note = 20; note < 100; note++) {
            int cents = 100 * note - pitch;
            int distance = Math.abs(cents);
            boolean isBetter = distance < Math.abs(best) || distance == Math.abs(best) && cents > 0;
            if (scale.charAt((note - tonic + 12) % 12) == '1' && isBetter) {
                best = cents;
            }
        }
        return best;
    }

    private static void promises21And22EachPitchInEachKey() {
        for (int first = 3600; first <= 8400; first += 8) {
            ValleyBells x = new ValleyBells();
            for (int pitch = first; pitch < first + 8 && pitch <= 8400; pitch++) {
                x.addBell(0, pitch);
            }
            for (int key = 0; key < 24; key++) {
                x.setKey(key % 12, key >= 12);
                for (int pitch = first; pitch < first + 8 && pitch <= 8400; pitch++) {
                    int due = nearestInScale(pitch, key % 12, SCALES[key / 12]);
                    Check.due("centsToKey of " + pitch + ", key " + key, due, x.centsToKey(pitch - first));
                    Check.due("centsToKeyByNotes of " + pitch + ", key " + key, due,
                        x.centsToKeyByNotes(pitch - first));
                }
            }
        }
    }

    private static void dueCents(int pitch, int tonic, boolean isMinor, int due) {
        ValleyBells x = Valleys.withPitches(pitch);
        x.setKey(tonic, isMinor);
        Check.due("centsToKey of " + pitch + " in " + tonic + isMinor, due, x.centsToKey(0));
        Check.due("centsToKeyByNotes of " + pitch + " in " + tonic + isMinor, due, x.centsToKeyByNotes(0));
        Check.due("pitch after the question", pitch, x.pitch(0));
    }

    /** "so that its deviation is 0 and the pitch class of its nearest note belongs to the scale" */
    private static void promises21And22Nothing() {
        dueCents(6000, 0, false, 0);
        dueCents(3600, 0, true, 0);
        dueCents(8400, 0, false, 0);
        dueCents(6100, 1, false, 0);
        // The tolerance does not matter.
        ValleyBells x = Valleys.withPitches(6001, 5950);
        x.setTolerance(50);
        Check.due("centsToKey of 6001, in key", -1, x.centsToKey(0));
        Check.due("centsToKeyByNotes of 6001, in key", -1, x.centsToKeyByNotes(0));
        Check.due("centsToKey of 5950, in key", 50, x.centsToKey(1));
        Check.due("centsToKeyByNotes of 5950, in key", 50, x.centsToKeyByNotes(1));
    }

    /** "of two such numbers the positive one" */
    private static void promises21And22OfTwoThePositive() {
        dueCents(6450, 0, false, 50);
        dueCents(7150, 0, false, 50);
        dueCents(6100, 0, false, 100);
        dueCents(7000, 0, false, 100);
        dueCents(6250, 0, true, 50);
        dueCents(7100, 0, true, 100);
        dueCents(6000, 1, true, 100);
    }

    private static void promises21And22BesideTheMiddle() {
        dueCents(6449, 0, false, -49);
        dueCents(6451, 0, false, 49);
        dueCents(6099, 0, false, -99);
        dueCents(6101, 0, false, 99);
        dueCents(7099, 0, true, -99);
        dueCents(7101, 0, true, 99);
        dueCents(6001, 0, false, -1);
        dueCents(5999, 0, false, 1);
    }

    /** "The limits of pitches are not observed." */
    private static void promises21And22BeyondTheLimitsOfPitches() {
        dueCents(8400, 1, true, 100);
        dueCents(8399, 1, true, -99);
        dueCents(8400, 11, false, 100);
        dueCents(3600, 1, true, 100);
        dueCents(3601, 1, true, 99);
        ValleyBells x = Valleys.withPitches(8400);
        x.setKey(1, true);
        Check.badArgument("tune(0, 100)", () -> x.tune(0, x.centsToKey(0)));
    }

    // ---- bellAtRank

    /** "if the rank is negative or not less than the number of bells" */
    private static void promise23Ranks() {
        for (int rank : new int[] {-1, 12, 13, MIN, MAX}) {
            Refusal.noElement("bellAtRank(" + rank + ")", x -> x.bellAtRank(rank));
        }
        Refusal.noElementIn(Valleys::busy, "bellAtRank(5) of 5", x -> x.bellAtRank(5));
        ValleyBells x = Valleys.full();
        for (int rank = 0; rank < 12; rank++) {
            Check.due("bellAtRank(" + rank + ") of 12", 11 - rank, x.bellAtRank(rank));
        }
    }

    private static void promise23NoBells() {
        Refusal.noElementIn(Valleys::empty, "bellAtRank(0), no bells", x -> x.bellAtRank(0));
        ValleyBells one = Valleys.withPitches(6000);
        Check.due("bellAtRank(0) of 1", 0, one.bellAtRank(0));
        Check.noElement("bellAtRank(1) of 1", () -> one.bellAtRank(1));
    }

    /** "bells with equal pitches by index in ascending order" */
    private static void promise23EqualPitches() {
        ValleyBells x = new ValleyBells();
        for (int k = 0; k < 12; k++) {
            x.addBell(3 - k % 4, 6000);
        }
        for (int rank = 0; rank < 12; rank++) {
            Check.due("bellAtRank(" + rank + "), equal pitches", rank, x.bellAtRank(rank));
        }
        ValleyBells pairs = Valleys.withPitches(8400, 3600, 8400, 3600);
        int[] due = {1, 3, 0, 2};
        for (int rank = 0; rank < 4; rank++) {
            Check.due("bellAtRank(" + rank + "), two and two", due[rank], pairs.bellAtRank(rank));
        }
    }

    private static void promise23AfterChanges() {
        ValleyBells x = Valleys.withPitches(6000, 6001);
        x.tune(0, 1);
        Check.due("bellAtRank(0), now equal", 0, x.bellAtRank(0));
        x.tune(0, 1);
        Check.due("bellAtRank(0), now higher", 1, x.bellAtRank(0));
        x.removeBell(0);
        Check.due("bellAtRank(0) of 1", 0, x.bellAtRank(0));
        Check.noElement("bellAtRank(1) of 1", () -> x.bellAtRank(1));
    }

    // ---- meanDeviation

    private static void promise24NoBells() {
        Refusal.in(Valleys::empty, "meanDeviation, no bells", ArithmeticException.class, x -> x.meanDeviation());
        ValleyBells x = Valleys.withPitches(6000);
        x.removeBell(0);
        Check.refused("meanDeviation, the bell removed", ArithmeticException.class, () -> x.meanDeviation());
    }

    private static void promise24LeastAndMost() {
        Check.dueDouble("meanDeviation, one bell on its note", 0.0, Valleys.withPitches(6000).meanDeviation());
        Check.dueDouble("meanDeviation of -50", 50.0, Valleys.withPitches(6050).meanDeviation());
        Check.dueDouble("meanDeviation of 49", 49.0, Valleys.withPitches(6049).meanDeviation());
        Check.dueDouble("meanDeviation of -1 and 1", 1.0, Valleys.withPitches(5999, 6001).meanDeviation());
        ValleyBells x = new ValleyBells();
        for (int k = 0; k < 12; k++) {
            x.addBell(0, 3650 + 400 * k);
        }
        Check.dueDouble("meanDeviation of twelve times -50", 50.0, x.meanDeviation());
    }

    /** "both converted to double" */
    private static void promise24Quotients() {
        Check.dueDouble("meanDeviation, 1 by 2", 0.5, Valleys.withPitches(6000, 6001).meanDeviation());
        Check.dueDouble("meanDeviation, 1 by 3", 1.0 / 3.0, Valleys.withPitches(6000, 5999, 6000).meanDeviation());
        ValleyBells x = Valleys.withPitches(6049, 6050, 6049, 6050, 6049, 6050, 6049, 6050, 6049, 6050, 6049);
        Check.dueDouble("meanDeviation, 544 by 11", 544.0 / 11.0, x.meanDeviation());
    }

    // ---- inKeyShare

    private static void promise25NoBells() {
        Refusal.in(Valleys::empty, "inKeyShare, no bells", ArithmeticException.class, x -> x.inKeyShare());
        ValleyBells x = Valleys.withPitches(6000);
        x.removeBell(0);
        Check.refused("inKeyShare, the bell removed", ArithmeticException.class, () -> x.inKeyShare());
    }

    private static void promise25LeastAndMost() {
        Check.dueDouble("inKeyShare, 0 by 1", 0.0f, Valleys.withPitches(6011).inKeyShare());
        Check.dueDouble("inKeyShare, 1 by 1", 1.0f, Valleys.withPitches(6010).inKeyShare());
        ValleyBells x = new ValleyBells();
        for (int k = 0; k < 12; k++) {
            x.addBell(0, 6000);
        }
        Check.dueDouble("inKeyShare, 12 by 12", 1.0f, x.inKeyShare());
        x.setKey(1, true);
        Check.dueDouble("inKeyShare, 0 by 12", 0.0f, x.inKeyShare());
    }

    /** "both converted to float" */
    private static void promise25Quotients() {
        for (int count = 1; count <= 12; count++) {
            for (int inKey = 0; inKey <= count; inKey++) {
                ValleyBells x = new ValleyBells();
                for (int k = 0; k < count; k++) {
                    x.addBell(0, k < inKey ? 6000 : 6100);
                }
                Check.dueDouble("inKeyShare, " + inKey + " by " + count, (float) inKey / (float) count, x.inKeyShare());
            }
        }
    }
}
