/** The boundary cases of promises 51 to 53, a test for each sentence that names one. */
final class OutputBoundsTest {
    private static final int MIN = Integer.MIN_VALUE;
    private static final int MAX = Integer.MAX_VALUE;

    public static void main(String[] args) {
        promise51NoSuchBell();
        promise51FirstAndLastIndexAndHerd();
        promise51Deviations();
        promise51Octaves();
        promise51NotInKey();
        promise51ReplacesTheLine();
        promise52NothingSounds();
        promise52AnyBeat();
        promise52OneAndTwentyNotes();
        promise52ReplacesTheLine();
        promise53InitiallyEmpty();
        promise53NoSuchCharacter();
        promise53FirstAndLastCharacter();
        theLineStays();
        Check.finish("OutputBoundsTest");
    }

    private static void dueBell(ValleyBells x, int bell, String due) {
        Check.due("writeBell(" + bell + ")", due.length(), x.writeBell(bell));
        Check.due("line of bell " + bell, due, Check.line(x));
    }

    private static void dueChord(ValleyBells x, int beat, String due) {
        Check.due("writeChord(" + beat + ")", due.length(), x.writeChord(beat));
        Check.due("line of beat " + beat, due, Check.line(x));
    }

    // ---- writeBell

    private static void promise51NoSuchBell() {
        for (int bell : new int[] {-1, 12, MIN, MAX}) {
            Refusal.noIndex("writeBell(" + bell + ")", x -> x.writeBell(bell));
        }
        Refusal.noIndexIn(Valleys::empty, "writeBell(0), no bells", x -> x.writeBell(0));
        Refusal.noIndexIn(Valleys::busy, "writeBell(5) of 5", x -> x.writeBell(5));
    }

    private static void promise51FirstAndLastIndexAndHerd() {
        ValleyBells x = new ValleyBells();
        for (int k = 0; k < 12; k++) {
            x.addBell(k == 0 ? 0 : 3, 6000);
        }
        dueBell(x, 0, "0h0:C4");
        dueBell(x, 9, "9h3:C4");
        dueBell(x, 10, "10h3:C4");
        dueBell(x, 11, "11h3:C4");
    }

    /** "the deviation with + or - if it is not 0" */
    private static void promise51Deviations() {
        int[][] rows = {{6000, 0}, {6001, 1}, {5999, -1}, {6009, 9}, {6010, 10}, {5991, -9}, {5990, -10}, {6049, 49},
            {5950, -50}, {5951, -49}};
        for (int[] row : rows) {
            ValleyBells x = Valleys.withPitches(row[0]);
            x.setTolerance(50);
            String cents = row[1] == 0 ? "" : row[1] > 0 ? "+" + row[1] : "" + row[1];
            dueBell(x, 0, "0h0:C4" + cents);
        }
    }

    /** "The octave is the note divided by 12, minus 1." */
    private static void promise51Octaves() {
        String[] names = {"C", "C#", "D", "D#", "E", "F", "F#", "G", "G#", "A", "A#", "B"};
        for (int note = 36; note <= 84; note++) {
            for (int cents = -50; cents <= 49; cents += 33) {
                int pitch = 100 * note + cents;
                if (pitch < 3600 || pitch > 8400) {
                    continue;
                }
                ValleyBells x = Valleys.withPitches(pitch);
                x.setTolerance(50);
                x.setKey(note % 12, false);
                String sign = cents > 0 ? "+" : "";
                dueBell(x, 0, "0h0:" + names[note % 12] + (note / 12 - 1) + sign + cents);
            }
        }
        dueBell(Valleys.withPitches(3600), 0, "0h0:C2");
        dueBell(Valleys.withPitches(4700), 0, "0h0:B2");
        dueBell(Valleys.withPitches(4800), 0, "0h0:C3");
        dueBell(Valleys.withPitches(8300), 0, "0h0:B5");
        dueBell(Valleys.withPitches(8400), 0, "0h0:C6");
        dueBell(Valleys.withPitches(8349), 0, "0h0:B5+49!");
        dueBell(Valleys.withPitches(8350), 0, "0h0:C6-50!");
    }

    /** "and ! if the bell is not in key" */
    private static void promise51NotInKey() {
        dueBell(Valleys.withPitches(6010), 0, "0h0:C4+10");
        dueBell(Valleys.withPitches(6011), 0, "0h0:C4+11!");
        dueBell(Valleys.withPitches(5990), 0, "0h0:C4-10");
        dueBell(Valleys.withPitches(5989), 0, "0h0:C4-11!");
        dueBell(Valleys.withPitches(6100), 0, "0h0:C#4!");
        ValleyBells x = Valleys.withPitches(6588);
        x.addBell(1, 6588);
        x.addBell(1, 6588);
        dueBell(x, 2, "2h1:F#4-12!");
    }

    /** "replacing its content": a shorter line leaves nothing of a longer one */
    private static void promise51ReplacesTheLine() {
        ValleyBells x = Valleys.withPitches(6650, 6000);
        dueBell(x, 0, "0h0:G4-50!");
        dueBell(x, 1, "1h0:C4");
        dueBell(x, 0, "0h0:G4-50!");
        dueBell(x, 0, "0h0:G4-50!");
        x.addTone(0, 1);
        dueChord(x, 0, "60");
        dueBell(x, 1, "1h0:C4");
    }

    // ---- writeChord

    /** "The line is empty if nothing sounds." */
    private static void promise52NothingSounds() {
        ValleyBells x = new ValleyBells();
        dueChord(x, 0, "");
        x.addBell(0, 6000);
        x.addTone(0, 0);
        dueChord(x, 0, "60");
        dueChord(x, 1, "");
        Check.noIndex("outputAt(0)", () -> x.outputAt(0));
        x.clearMelody(0);
        dueChord(x, 0, "");
    }

    /** "the beat, any number" */
    private static void promise52AnyBeat() {
        ValleyBells x = Valleys.withPitches(6000);
        Valleys.play(x, 0, 0, 0, 0, 0, 0, 0, 0, 0);
        x.setEntry(0, 15);
        x.addCliff(8, 12);
        for (int beat : new int[] {-1, 14, 31, MIN, MIN + 22, MIN + 23, MAX, MAX - 7, MAX - 14}) {
            x.writeBell(0);
            dueChord(x, beat, "");
        }
        dueChord(x, 15, "60");
        dueChord(x, 30, "72");
    }

    private static void promise52OneAndTwentyNotes() {
        ValleyBells x = Valleys.withPitches(3600, 8400, 6049, 6050);
        for (int herd = 0; herd < 4; herd++) {
            Valleys.play(x, herd, herd, herd);
        }
        dueChord(x, 0, "36 60 61 84");
        x.addCliff(1, -12);
        x.addCliff(1, 12);
        x.addCliff(1, 0);
        x.addCliff(1, 1);
        dueChord(x, 1, "24 36 36 37 48 48 49 60 60 61 61 61 62 72 72 73 84 84 85 96");
        dueChord(x, 2, "24 36 37 48 48 49 60 61 61 62 72 72 73 84 85 96");
        x.clearMelody(0);
        x.clearMelody(1);
        x.clearMelody(3);
        dueChord(x, 0, "60");
    }

    private static void promise52ReplacesTheLine() {
        ValleyBells x = Valleys.withPitches(6000, 6400, 6700);
        for (int herd = 0; herd < 3; herd++) {
            x.addTone(herd, herd);
        }
        dueChord(x, 0, "60 64 67");
        dueChord(x, 0, "60 64 67");
        x.clearMelody(1);
        dueChord(x, 0, "60 67");
        x.undo();
        Check.due("line after undo", "60 67", Check.line(x));
        dueChord(x, 0, "60 64 67");
    }

    // ---- outputAt

    /** "the output line, which is initially empty" */
    private static void promise53InitiallyEmpty() {
        Refusal.noIndexIn(Valleys::empty, "outputAt(0), initially", x -> x.outputAt(0));
        ValleyBells x = Valleys.withPitches(6000);
        Check.noIndex("outputAt(0), nothing written", () -> x.outputAt(0));
        Check.noIndex("writeBell(1)", () -> x.writeBell(1));
        Check.noIndex("outputAt(0), after a refused writeBell", () -> x.outputAt(0));
    }

    /** "if the index is negative or not less than the length of the line" */
    private static void promise53NoSuchCharacter() {
        for (int index : new int[] {-1, -2, 60, MIN, MAX}) {
            Refusal.noIndex("outputAt(" + index + ")", x -> x.outputAt(index));
        }
        // The lines of a busy and of a full valley: "1h3:E4+12!" and "11h3:E2+11!".
        Refusal.noIndexIn(Valleys::busy, "outputAt(10) of 10", x -> x.outputAt(10));
        Refusal.noIndexIn(Valleys::full, "outputAt(11) of 11", x -> x.outputAt(11));
    }

    private static void promise53FirstAndLastCharacter() {
        ValleyBells x = Valleys.busy();
        Check.due("line", "1h3:E4+12!", Check.line(x));
        Check.due("outputAt(0)", '1', x.outputAt(0));
        Check.due("outputAt(9)", '!', x.outputAt(9));
        ValleyBells y = Valleys.full();
        Check.due("line", "11h3:E2+11!", Check.line(y));
        Check.due("outputAt(0)", '1', y.outputAt(0));
        Check.due("outputAt(10)", '!', y.outputAt(10));
        int length = y.writeChord(15);
        Check.due("outputAt, the last of a chord", true, y.outputAt(length - 1) >= '0');
        Check.noIndex("outputAt, behind a chord", () -> y.outputAt(length));
    }

    /** "Undo, save and restore concern the whole state except .. the output line." */
    private static void theLineStays() {
        ValleyBells x = Valleys.busy();
        x.removeBell(1);
        x.undo();
        x.save();
        x.restore();
        Check.due("line after removeBell, undo, save and restore", "1h3:E4+12!", Check.line(x));
        x.writeChord(1);
        x.restore();
        Check.due("an empty line after restore", "", Check.line(x));
    }
}
