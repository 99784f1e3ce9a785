/** Promises 14 to 25. */
final class BellQueriesTest {
    public static void main(String[] args) {
        promise14BellCount();
        promises15And16();
        promises17And18();
        promise19IsInKey();
        promise20IsTuned();
        promises21And22();
        promise23BellAtRank();
        promise24MeanDeviation();
        promise25InKeyShare();
        indexesOutOfRange();
        Check.finish("BellQueriesTest");
    }

    private static ValleyBells with(int... pitches) {
        ValleyBells x = new ValleyBells();
        for (int pitch : pitches) {
            x.addBell(0, pitch);
        }
        return x;
    }

    private static void promise14BellCount() {
        ValleyBells x = new ValleyBells();
        for (int k = 0; k < 12; k++) {
            Check.due("bellCount", k, x.bellCount());
            x.addBell(0, 6000);
        }
        Check.due("bellCount", 12, x.bellCount());
        x.removeBell(4);
        Check.due("bellCount", 11, x.bellCount());
    }

    private static void promises15And16() {
        ValleyBells x = new ValleyBells();
        x.addBell(3, 6012);
        x.addBell(1, 8400);
        Check.due("herdOf(0)", 3, x.herdOf(0));
        Check.due("herdOf(1)", 1, x.herdOf(1));
        Check.due("pitch(0)", 6012, x.pitch(0));
        Check.due("pitch(1)", 8400, x.pitch(1));
    }

    private static void promises17And18() {
        int[][] rows = {{6000, 60, 0}, {6049, 60, 49}, {6050, 61, -50}, {5950, 60, -50}, {5949, 59, 49},
            {3600, 36, 0}, {8400, 84, 0}, {3650, 37, -50}, {8399, 84, -1}};
        for (int[] row : rows) {
            ValleyBells x = with(row[0]);
            Check.due("nearestNote of " + row[0], row[1], x.nearestNote(0));
            Check.due("deviation of " + row[0], row[2], x.deviation(0));
        }
    }

    private static void promise19IsInKey() {
        ValleyBells x = with(6010, 6011, 5990, 5989, 6100, 7210);
        boolean[] due = {true, false, true, false, false, true};
        for (int k = 0; k < due.length; k++) {
            Check.due("isInKey(" + k + ")", due[k], x.isInKey(k));
        }
        x.setKey(1, false);
        Check.due("isInKey(4)", true, x.isInKey(4));
        Check.due("isInKey(0), C in C# major", true, x.isInKey(0));
        x.setKey(1, true);
        Check.due("isInKey(0), C in C# minor", false, x.isInKey(0));
    }

    private static void promise20IsTuned() {
        ValleyBells x = new ValleyBells();
        Check.due("isTuned, no bells", true, x.isTuned());
        x.addBell(0, 6000);
        x.addBell(1, 6400);
        Check.due("isTuned", true, x.isTuned());
        x.addBell(2, 6600);
        Check.due("isTuned", false, x.isTuned());
        x.removeBell(2);
        x.tune(0, 11);
        Check.due("isTuned", false, x.isTuned());
    }

    private static void promises21And22() {
        int[][] inC = {{6000, 0}, {6049, -49}, {6050, -50}, {6099, -99}, {6100, 100}, {6101, 99},
            {6300, 100}, {6299, -99}, {6450, 50}, {6449, -49}, {6451, 49}, {3600, 0}, {8400, 0}, {8399, 1}};
        for (int[] row : inC) {
            ValleyBells x = with(row[0]);
            Check.due("centsToKey of " + row[0], row[1], x.centsToKey(0));
            Check.due("centsToKeyByNotes of " + row[0], row[1], x.centsToKeyByNotes(0));
        }
        // C lies between B and C# of C# minor: the notes beyond the limits of pitches count as well.
        ValleyBells minor = with(3600, 8400, 3601, 8399, 3650, 8350);
        minor.setKey(1, true);
        int[] due = {100, 100, 99, -99, 50, -50};
        for (int k = 0; k < due.length; k++) {
            Check.due("centsToKey(" + k + ")", due[k], minor.centsToKey(k));
            Check.due("centsToKeyByNotes(" + k + ")", due[k], minor.centsToKeyByNotes(k));
        }
    }

    private static void promise23BellAtRank() {
        ValleyBells x = with(6100, 6000, 6100, 5900, 6100, 8400);
        int[] due = {3, 1, 0, 2, 4, 5};
        for (int rank = 0; rank < due.length; rank++) {
            Check.due("bellAtRank(" + rank + ")", due[rank], x.bellAtRank(rank));
        }
        Check.noElement("bellAtRank(-1)", () -> x.bellAtRank(-1));
        Check.noElement("bellAtRank(6)", () -> x.bellAtRank(6));
        Check.noElement("bellAtRank(MIN)", () -> x.bellAtRank(Integer.MIN_VALUE));
        Check.noElement("bellAtRank(MAX)", () -> x.bellAtRank(Integer.MAX_VALUE));
        Check.noElement("bellAtRank(0), no bells", () -> new ValleyBells().bellAtRank(0));
    }

    private static void promise24MeanDeviation() {
        Check.refused("meanDeviation", ArithmeticException.class, () -> new ValleyBells().meanDeviation());
        Check.dueDouble("meanDeviation", 0.0, with(6000).meanDeviation());
        Check.dueDouble("meanDeviation", 50.0, with(6050).meanDeviation());
        Check.dueDouble("meanDeviation", 10.0 / 3.0, with(6003, 5993, 6000).meanDeviation());
    }

    private static void promise25InKeyShare() {
        Check.refused("inKeyShare", ArithmeticException.class, () -> new ValleyBells().inKeyShare());
        Check.dueDouble("inKeyShare", 0.0f, with(6100).inKeyShare());
        Check.dueDouble("inKeyShare", 1.0f, with(6000, 6200).inKeyShare());
        Check.dueDouble("inKeyShare", 2.0f / 3.0f, with(6000, 6200, 6100).inKeyShare());
    }

    private static void indexesOutOfRange() {
        int[] wrong = {-1, 2, 12, Integer.MIN_VALUE, Integer.MAX_VALUE};
        ValleyBells x = with(6000, 6100);
        for (int bell : wrong) {
            Check.noIndex("herdOf(" + bell + ")", () -> x.herdOf(bell));
            Check.noIndex("pitch(" + bell + ")", () -> x.pitch(bell));
            Check.noIndex("nearestNote(" + bell + ")", () -> x.nearestNote(bell));
            Check.noIndex("deviation(" + bell + ")", () -> x.deviation(bell));
            Check.noIndex("isInKey(" + bell + ")", () -> x.isInKey(bell));
            Check.noIndex("centsToKey(" + bell + ")", () -> x.centsToKey(bell));
            Check.noIndex("centsToKeyByNotes(" + bell + ")", () -> x.centsToKeyByNotes(bell));
        }
    }
}
