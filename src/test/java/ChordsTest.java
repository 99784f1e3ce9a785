/** Promises 38 to 46. */
final class ChordsTest {
    private static final int[] FAR_BEATS = {-1, 31, 40, Integer.MIN_VALUE, Integer.MIN_VALUE + 8,
        Integer.MIN_VALUE + 23, Integer.MAX_VALUE, Integer.MAX_VALUE - 7};

    public static void main(String[] args) {
        promises38And39();
        promises38And39FullChord();
        promises38And39FarBeats();
        promises38To42HearTheirOwnBeat();
        promises40And41EachInterval();
        promises40And41ManyNotes();
        promise42Thirds();
        promise43LastBeat();
        promise44TotalDissonances();
        promise45HarshestBeat();
        promise46IsConsistent();
        Check.finish("ChordsTest");
    }

    /** Bells that sound together at beat 0, each in the melody of its own herd. */
    private static ValleyBells together(int... notes) {
        ValleyBells x = new ValleyBells();
        for (int k = 0; k < notes.length; k++) {
            x.addBell(0, 100 * notes[k]);
            x.addTone(k, k);
        }
        return x;
    }

    private static void dueChord(ValleyBells x, int beat, int... notes) {
        Check.due("chordSize(" + beat + ")", notes.length, x.chordSize(beat));
        for (int k = 0; k < notes.length; k++) {
            Check.due("chordNote(" + beat + ", " + k + ")", notes[k], x.chordNote(beat, k));
        }
        Check.noElement("chordNote(" + beat + ", size)", () -> x.chordNote(beat, notes.length));
        Check.noElement("chordNote(" + beat + ", -1)", () -> x.chordNote(beat, -1));
    }

    private static void promises38And39() {
        ValleyBells x = together(67, 60, 60);
        dueChord(x, 0, 60, 60, 67);
        dueChord(x, 1);
        x.addCliff(2, -12);
        x.addCliff(2, 3);
        x.addTone(1, 0);
        dueChord(x, 0, 60, 60, 67);
        dueChord(x, 1, 67);
        dueChord(x, 2, 48, 48, 55, 63, 63, 70);
        dueChord(x, 3, 55, 70);
        dueChord(x, 4);
        x.setEntry(2, 2);
        dueChord(x, 0, 60, 67);
        dueChord(x, 2, 48, 55, 60, 63, 70);
        x.tune(1, -50);
        dueChord(x, 0, 60, 67);
        x.tune(1, -1);
        dueChord(x, 0, 59, 67);
        x.removeCliff(0);
        dueChord(x, 2, 60, 62, 70);
        x.removeBell(0);
        dueChord(x, 0, 59);
    }

    private static void promises38And39FullChord() {
        ValleyBells x = new ValleyBells();
        for (int bell = 0; bell < 12; bell++) {
            x.addBell(0, 8400 - 100 * bell);
        }
        for (int herd = 0; herd < 4; herd++) {
            for (int k = 0; k < 8; k++) {
                x.addTone(herd, herd * 2 + (k % 2));
            }
        }
        for (int cliff = 0; cliff < 4; cliff++) {
            x.addCliff(cliff + 1, 12 - cliff);
        }
        // Bells 0, 2, 4, 6 sound at even beats, 1, 3, 5, 7 at odd ones, and 4 echoes of each tone.
        dueChord(x, 7, 77, 79, 81, 83,
            86, 88, 88, 88, 90, 90, 90, 90, 92, 92, 92, 92, 94, 94, 94, 96);
        Check.due("writeChord(7)", 59, x.writeChord(7));
    }

    private static void promises38And39FarBeats() {
        ValleyBells x = together(60);
        x.setEntry(0, 15);
        for (int k = 0; k < 7; k++) {
            x.addTone(0, 0);
        }
        x.addCliff(8, 12);
        dueChord(x, 30, 72);
        dueChord(x, 14);
        dueChord(x, 15, 60);
        for (int beat : FAR_BEATS) {
            dueChord(x, beat);
            Check.due("dissonances", 0, x.dissonances(beat));
            Check.due("dissonancesByClasses", 0, x.dissonancesByClasses(beat));
            Check.due("thirds", 0, x.thirds(beat));
        }
        Check.noElement("chordNote(15, MAX)", () -> x.chordNote(15, Integer.MAX_VALUE));
        Check.noElement("chordNote(15, MIN)", () -> x.chordNote(15, Integer.MIN_VALUE));
    }

    /** Each question is asked right after one about another beat. */
    private static void promises38To42HearTheirOwnBeat() {
        ValleyBells x = together(60, 61, 64);
        x.addTone(0, 2);
        Check.due("chordSize(0)", 3, x.chordSize(0));
        Check.due("chordNote(1, 0)", 64, x.chordNote(1, 0));
        Check.due("chordNote(0, 2)", 64, x.chordNote(0, 2));
        Check.due("chordSize(1)", 1, x.chordSize(1));
        Check.due("dissonances(0)", 1, x.dissonances(0));
        Check.due("dissonancesByClasses(1)", 0, x.dissonancesByClasses(1));
        Check.due("dissonancesByClasses(0)", 1, x.dissonancesByClasses(0));
        Check.due("dissonances(1)", 0, x.dissonances(1));
        Check.due("thirds(0)", 2, x.thirds(0));
        Check.due("thirds(1)", 0, x.thirds(1));
        Check.due("writeChord(0)", 8, x.writeChord(0));
        Check.due("writeChord(1)", 2, x.writeChord(1));
    }

    private static void promises40And41EachInterval() {
        boolean[] dissonant = {false, true, true, false, false, false, true, false, false, false, true, true};
        for (int interval = 0; interval <= 48; interval++) {
            ValleyBells x = together(36 + interval, 36);
            long due = dissonant[interval % 12] ? 1 : 0;
            Check.due("dissonances, interval " + interval, due, x.dissonances(0));
            Check.due("dissonancesByClasses, interval " + interval, due, x.dissonancesByClasses(0));
        }
    }

    private static void promises40And41ManyNotes() {
        ValleyBells x = together(60, 61, 66, 60);
        Check.due("dissonances(0)", 4, x.dissonances(0));
        Check.due("dissonancesByClasses(0)", 4, x.dissonancesByClasses(0));
        x.addCliff(1, 1);
        for (int herd = 0; herd < 4; herd++) {
            x.addTone(herd, 0);
        }
        // 60 four times, with the echoes 61, 62, 67, 61.
        Check.due("dissonances(1)", 16, x.dissonances(1));
        Check.due("dissonancesByClasses(1)", 16, x.dissonancesByClasses(1));
        Check.due("dissonances(9)", 0, x.dissonances(9));
        Check.due("dissonancesByClasses(9)", 0, x.dissonancesByClasses(9));
    }

    private static void promise42Thirds() {
        for (int interval = 0; interval <= 48; interval++) {
            long due = interval % 12 == 3 || interval % 12 == 4 ? 1 : 0;
            Check.due("thirds, interval " + interval, due, together(36 + interval, 36).thirds(0));
            Check.due("thirds, interval " + interval, due, together(36, 36 + interval).thirds(0));
        }
        Check.due("thirds of 60 64 67 71", 3, together(60, 64, 67, 71).thirds(0));
        Check.due("thirds of 60 60 63 63", 4, together(60, 60, 63, 63).thirds(0));
        Check.due("thirds without a tone", 0, together().thirds(0));
    }

    private static void promise43LastBeat() {
        ValleyBells x = together();
        Check.noElement("lastBeat", () -> x.lastBeat());
        x.addCliff(8, 0);
        x.setEntry(1, 15);
        x.addBell(0, 6000);
        Check.noElement("lastBeat, no tones", () -> x.lastBeat());
        x.addTone(0, 0);
        Check.due("lastBeat", 8, x.lastBeat());
        x.addCliff(2, 0);
        Check.due("lastBeat", 8, x.lastBeat());
        x.removeCliff(0);
        Check.due("lastBeat", 2, x.lastBeat());
        x.removeCliff(0);
        Check.due("lastBeat", 0, x.lastBeat());
        x.addTone(1, 0);
        Check.due("lastBeat", 15, x.lastBeat());
        for (int k = 0; k < 7; k++) {
            x.addTone(1, 0);
        }
        x.addCliff(8, 0);
        Check.due("lastBeat", 30, x.lastBeat());
        x.removeBell(0);
        Check.noElement("lastBeat, the tones removed", () -> x.lastBeat());
    }

    private static void promise44TotalDissonances() {
        ValleyBells x = together(60, 61, 66);
        Check.due("totalDissonances", 2, x.totalDissonances());
        x.addCliff(8, 0);
        Check.due("totalDissonances", 4, x.totalDissonances());
        for (int herd = 0; herd < 3; herd++) {
            x.setEntry(herd, 15);
            for (int k = 0; k < 7; k++) {
                x.addTone(herd, herd);
            }
        }
        Check.due("totalDissonances", 32, x.totalDissonances());
        Check.due("totalDissonances, nothing sounds", 0, together().totalDissonances());
    }

    private static void promise45HarshestBeat() {
        ValleyBells x = together();
        Check.noElement("harshestBeat", () -> x.harshestBeat());
        x.addCliff(1, 0);
        x.addBell(0, 6000);
        x.addBell(0, 6100);
        Check.noElement("harshestBeat, no tones", () -> x.harshestBeat());
        x.setEntry(2, 3);
        x.addTone(2, 0);
        Check.due("harshestBeat, no dissonance", 3, x.harshestBeat());
        x.addTone(2, 0);
        x.addTone(2, 1);
        // Beat 5: 61 with the echo 60; beat 6: the echo 61 alone.
        Check.due("harshestBeat", 5, x.harshestBeat());
        x.setEntry(1, 5);
        x.addTone(1, 0);
        x.addTone(1, 0);
        // Beat 5: 61 60 60 with 2 pairs; beat 6: 60 60 61 with 2 pairs as well.
        Check.due("dissonances(5)", 2, x.dissonances(5));
        Check.due("dissonances(6)", 2, x.dissonances(6));
        Check.due("harshestBeat, the earlier of two", 5, x.harshestBeat());
        x.setEntry(3, 6);
        x.addTone(3, 1);
        Check.due("harshestBeat, the later one", 6, x.harshestBeat());
        ValleyBells late = together(60);
        late.setEntry(0, 15);
        late.addCliff(8, 0);
        late.addCliff(8, 1);
        Check.due("harshestBeat, the first beat of echoes", 23, late.harshestBeat());
        for (int k = 0; k < 7; k++) {
            late.addTone(0, 0);
        }
        Check.due("harshestBeat", 23, late.harshestBeat());
        late.addBell(0, 6600);
        late.addTone(1, 1);
        late.setEntry(1, 15);
        Check.due("harshestBeat", 23, late.harshestBeat());
        ValleyBells last = new ValleyBells();
        last.addBell(0, 6000);
        last.addBell(0, 6100);
        for (int herd = 0; herd < 2; herd++) {
            last.setEntry(herd, 15);
            for (int k = 0; k < 8; k++) {
                last.addTone(herd, k == 7 ? herd : 0);
            }
        }
        last.addCliff(8, 0);
        last.addCliff(8, 0);
        Check.due("harshestBeat, the last one possible", 30, last.harshestBeat());
        Check.due("lastBeat", 30, last.lastBeat());
    }

    private static void promise46IsConsistent() {
        ValleyBells x = together(60, 61, 66, 73);
        Check.due("isConsistent, empty", true, new ValleyBells().isConsistent());
        Check.due("isConsistent", true, x.isConsistent());
        x.addCliff(3, -12);
        x.addCliff(1, 7);
        x.setKey(1, true);
        x.tune(0, 50);
        Check.due("isConsistent", true, x.isConsistent());
        x.removeBell(1);
        Check.due("isConsistent", true, x.isConsistent());
        x.undo();
        x.save();
        x.restore();
        Check.due("isConsistent", true, x.isConsistent());
    }
}
