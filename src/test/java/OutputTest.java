/** Promises 51 to 53. */
final class OutputTest {
    public static void main(String[] args) {
        promise51Example();
        promise51Names();
        promise51Parts();
        promise52WriteChord();
        promise53OutputAt();
        Check.finish("OutputTest");
    }

    private static void dueBell(ValleyBells x, int bell, String due) {
        Check.due("writeBell(" + bell + ")", due.length(), x.writeBell(bell));
        Check.due("line of bell " + bell, due, Check.line(x));
    }

    private static void promise51Example() {
        ValleyBells x = new ValleyBells();
        x.addBell(0, 6000);
        x.addBell(0, 6000);
        x.addBell(1, 6588);
        dueBell(x, 2, "2h1:F#4-12!");
        x.setKey(7, false);
        dueBell(x, 2, "2h1:F#4-12!");
        x.setTolerance(12);
        dueBell(x, 2, "2h1:F#4-12");
        dueBell(x, 0, "0h0:C4");
    }

    private static void promise51Names() {
        String[] names = {"C", "C#", "D", "D#", "E", "F", "F#", "G", "G#", "A", "A#", "B"};
        for (int note = 36; note <= 84; note++) {
            ValleyBells x = new ValleyBells();
            x.setTolerance(50);
            x.addBell(3, 100 * note);
            String name = names[note % 12];
            String due = "0h3:" + name + (note / 12 - 1) + (name.length() == 2 ? "!" : "");
            dueBell(x, 0, due);
        }
    }

    private static void promise51Parts() {
        ValleyBells x = new ValleyBells();
        for (int k = 0; k < 10; k++) {
            x.addBell(k % 4, 6000);
        }
        x.addBell(3, 3609);
        x.addBell(0, 5950);
        dueBell(x, 10, "10h3:C2+9");
        x.tune(10, -8);
        dueBell(x, 10, "10h3:C2+1");
        x.setTolerance(0);
        dueBell(x, 10, "10h3:C2+1!");
        x.setTolerance(10);
        x.tune(9, -1);
        dueBell(x, 9, "9h1:C4-1");
        x.tune(9, 1);
        dueBell(x, 11, "11h0:C4-50!");
        x.tune(11, -1);
        dueBell(x, 11, "11h0:B3+49!");
        dueBell(x, 9, "9h1:C4");
        x.setKey(2, false);
        dueBell(x, 9, "9h1:C4!");
        int[] wrong = {-1, 12, Integer.MIN_VALUE, Integer.MAX_VALUE};
        for (int bell : wrong) {
            Check.noIndex("writeBell(" + bell + ")", () -> x.writeBell(bell));
            Check.due("line after a refusal", "9h1:C4!", Check.line(x));
        }
    }

    private static void promise52WriteChord() {
        ValleyBells x = new ValleyBells();
        x.addBell(0, 6700);
        x.addBell(0, 6000);
        x.addBell(0, 6400);
        for (int k = 0; k < 3; k++) {
            x.addTone(k, k);
        }
        Check.due("writeChord(0)", 8, x.writeChord(0));
        Check.due("line", "60 64 67", Check.line(x));
        Check.due("writeChord(1)", 0, x.writeChord(1));
        Check.due("line", "", Check.line(x));
        x.addCliff(1, 12);
        x.addTone(3, 1);
        Check.due("writeChord(0)", 11, x.writeChord(0));
        Check.due("line", "60 60 64 67", Check.line(x));
        Check.due("writeChord(1)", 11, x.writeChord(1));
        Check.due("line", "72 72 76 79", Check.line(x));
        x.clearMelody(0);
        x.clearMelody(1);
        x.clearMelody(2);
        Check.due("writeChord(0)", 2, x.writeChord(0));
        Check.due("line", "60", Check.line(x));
        Check.due("writeChord(MIN)", 0, x.writeChord(Integer.MIN_VALUE));
        Check.due("writeChord(MAX)", 0, x.writeChord(Integer.MAX_VALUE));
    }

    private static void promise53OutputAt() {
        ValleyBells x = new ValleyBells();
        Check.noIndex("outputAt(0), initially", () -> x.outputAt(0));
        x.addBell(0, 6000);
        x.writeBell(0);
        Check.due("outputAt(0)", '0', x.outputAt(0));
        Check.due("outputAt(5)", '4', x.outputAt(5));
        Check.noIndex("outputAt(6)", () -> x.outputAt(6));
        Check.noIndex("outputAt(-1)", () -> x.outputAt(-1));
        Check.noIndex("outputAt(MIN)", () -> x.outputAt(Integer.MIN_VALUE));
        Check.noIndex("outputAt(MAX)", () -> x.outputAt(Integer.MAX_VALUE));
        x.undo();
        Check.due("line after undo", "0h0:C4", Check.line(x));
        x.save();
        x.addBell(1, 6200);
        x.restore();
        Check.due("line after restore", "0h0:C4", Check.line(x));
        x.writeChord(0);
        Check.noIndex("outputAt(0), an empty line", () -> x.outputAt(0));
    }
}
