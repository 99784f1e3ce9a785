/** Promises 7, 8 and 26 to 30. */
final class KeysTest {
    public static void main(String[] args) {
        promise7SetKey();
        promise8SetTolerance();
        promises26To28();
        promise29IsInScale();
        promise30BestTonic();
        Check.finish("KeysTest");
    }

    private static void promise7SetKey() {
        ValleyBells x = new ValleyBells();
        Check.due("setKey(11, true), no bells", 0, x.setKey(11, true));
        x.addBell(0, 6000);
        x.addBell(0, 6310);
        x.addBell(1, 6411);
        x.addBell(2, 6400);
        Check.due("setKey(0, false)", 2, x.setKey(0, false));
        Check.due("setKey(0, true)", 2, x.setKey(0, true));
        Check.due("isInKey(1)", true, x.isInKey(1));
        Check.due("setKey(7, false)", 2, x.setKey(7, false));
        Check.due("setKey(3, false)", 2, x.setKey(3, false));
        Check.due("setKey(1, false)", 2, x.setKey(1, false));
        Check.due("setKey(4, false)", 2, x.setKey(4, false));
        Check.due("setKey(6, false)", 1, x.setKey(6, false));
        Check.badArgument("setKey(12, true)", () -> x.setKey(12, true));
        Check.badArgument("setKey(-1, true)", () -> x.setKey(-1, true));
        Check.badArgument("setKey(MIN, true)", () -> x.setKey(Integer.MIN_VALUE, true));
        Check.badArgument("setKey(MAX, true)", () -> x.setKey(Integer.MAX_VALUE, true));
        Check.due("tonic", 6, x.tonic());
        Check.due("isMinor", false, x.isMinor());
    }

    private static void promise8SetTolerance() {
        ValleyBells x = new ValleyBells();
        x.addBell(0, 5950);
        x.addBell(0, 6001);
        Check.due("setTolerance(0)", 10, x.setTolerance(0));
        Check.due("isInKey(1)", false, x.isInKey(1));
        Check.due("setTolerance(49)", 0, x.setTolerance(49));
        Check.due("isInKey(0)", false, x.isInKey(0));
        Check.due("setTolerance(50)", 49, x.setTolerance(50));
        Check.due("isInKey(0)", true, x.isInKey(0));
        Check.badArgument("setTolerance(51)", () -> x.setTolerance(51));
        Check.badArgument("setTolerance(-1)", () -> x.setTolerance(-1));
        Check.badArgument("setTolerance(MIN)", () -> x.setTolerance(Integer.MIN_VALUE));
        Check.due("tolerance", 50, x.tolerance());
    }

    private static void promises26To28() {
        ValleyBells x = new ValleyBells();
        x.setKey(11, true);
        Check.due("tonic", 11, x.tonic());
        Check.due("isMinor", true, x.isMinor());
        x.setKey(5, false);
        Check.due("tonic", 5, x.tonic());
        Check.due("isMinor", false, x.isMinor());
        x.setTolerance(33);
        Check.due("tolerance", 33, x.tolerance());
    }

    private static void promise29IsInScale() {
        ValleyBells x = new ValleyBells();
        String[] scales = {"x-x-xx-x-x-x", "x-xx-x-xx-x-"};
        for (int tonic = 0; tonic < 12; tonic++) {
            for (int mode = 0; mode < 2; mode++) {
                x.setKey(tonic, mode == 1);
                for (int step = 0; step < 12; step++) {
                    boolean due = scales[mode].charAt(step) == 'x';
                    Check.due("isInScale", due, x.isInScale((tonic + step) % 12));
                }
            }
        }
        Check.badArgument("isInScale(12)", () -> x.isInScale(12));
        Check.badArgument("isInScale(-1)", () -> x.isInScale(-1));
        Check.badArgument("isInScale(MIN)", () -> x.isInScale(Integer.MIN_VALUE));
        Check.badArgument("isInScale(MAX)", () -> x.isInScale(Integer.MAX_VALUE));
    }

    private static void promise30BestTonic() {
        ValleyBells x = new ValleyBells();
        x.setKey(4, true);
        Check.due("bestTonic(false), no bells", 0, x.bestTonic(false));
        Check.due("bestTonic(true), no bells", 0, x.bestTonic(true));
        x.addBell(0, 6100);
        Check.due("bestTonic(false)", 1, x.bestTonic(false));
        Check.due("bestTonic(true)", 1, x.bestTonic(true));
        int[] restOfE = {6400, 6600, 6800, 6900, 7100, 7300, 7500};
        for (int pitch : restOfE) {
            x.addBell(1, pitch);
        }
        Check.due("bestTonic(false)", 4, x.bestTonic(false));
        Check.due("bestTonic(true)", 1, x.bestTonic(true));
        Check.due("tonic", 4, x.tonic());
        Check.due("isMinor", true, x.isMinor());
        ValleyBells y = new ValleyBells();
        y.addBell(0, 6115);
        y.addBell(0, 6115);
        y.addBell(0, 6200);
        y.addBell(0, 6400);
        Check.due("bestTonic(false): two are out of tune", 0, y.bestTonic(false));
        y.setTolerance(15);
        Check.due("bestTonic(false): all are in tune", 2, y.bestTonic(false));
    }
}
