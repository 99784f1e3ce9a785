/** The boundary cases of promises 38 to 46, a test for each sentence that names one. */
final class ChordBoundsTest {
    private static final int MIN = Integer.MIN_VALUE;
    private static final int MAX = Integer.MAX_VALUE;
    /** Beats at which nothing can sound; near the ends, adding or subtracting a delay or an entry wraps around. */
    private static final int[] SILENT = {-1, -8, -15, -23, 31, 32, 46, MIN, MIN + 1, MIN + 8, MIN + 15, MIN + 22,
        MIN + 23, MIN + 30, MAX, MAX - 1, MAX - 7, MAX - 8, MAX - 15, MAX - 22, MAX - 30};
    private static final boolean[] DISSONANT = {false, true, true, false, false, false, true, false, false, false,
        true, true};

    public static void main(String[] args) {
        promise38NothingSounds();
        promise38AnyBeat();
        promise38FirstAndLastBeatOfTones();
        promise38FirstAndLastBeatOfEchoes();
        promise38EchoesAreNotAnswered();
        promise38EqualNotesAreCountedSeparately();
        promises38And39FullChord();
        promise39NoSuchPosition();
        promise39AnyBeat();
        promise39LowestAndHighestNote();
        promise39NearestNoteAtPresent();
        promises40And41FewNotes();
        promises40To42EachIntervalOfTones();
        promises40To42EachIntervalOfEchoes();
        promises40And41FullChord();
        promises38To42EachBeatAnew();
        promises40To42AnyBeat();
        promise42FewNotes();
        promise43NothingSounds();
        promise43FirstAndLastBeat();
        promise44NothingSounds();
        promise44FirstAndLastBeat();
        promise44FullMelodies();
        promise45NothingSounds();
        promise45NoDissonances();
        promise45EarliestOfSeveral();
        promise45FirstAndLastBeat();
        promise46EmptyAndFull();
        queriesChangeNothing();
        Check.finish("ChordBoundsTest");
    }

    /** Bells that sound together at beat 0, each in the melody of its own herd. */
    private static ValleyBells together(int... notes) {
        ValleyBells x = new ValleyBells();
        for (int k = 0; k < notes.length; k++) {
            x.addBell(0, 100 * notes[k]);
            x.addTone(k, k);
        }
        return x;
    }

    /** Eight tones of each herd, the bells 0 to 3 at each beat from 15 to 22. */
    private static ValleyBells lateAndFull(int... pitches) {
        ValleyBells x = Valleys.withPitches(pitches);
        for (int herd = 0; herd < 4; herd++) {
            Valleys.play(x, herd, herd, herd, herd, herd, herd, herd, herd, herd);
            x.setEntry(herd, 15);
        }
        return x;
    }

    private static void dueChord(ValleyBells x, int beat, int... notes) {
        Check.due("chordSize(" + beat + ")", notes.length, x.chordSize(beat));
        for (int k = 0; k < notes.length; k++) {
            Check.due("chordNote(" + beat + ", " + k + ")", notes[k], x.chordNote(beat, k));
        }
        Check.noElement("chordNote(" + beat + ", size)", () -> x.chordNote(beat, notes.length));
    }

    // ---- chordSize and chordNote

    /** "0 if nothing sounds" */
    private static void promise38NothingSounds() {
        ValleyBells x = new ValleyBells();
        Check.due("chordSize(0), no bells", 0, x.chordSize(0));
        x.addBell(0, 6000);
        Valleys.fillCliffs(x);
        for (int beat = 0; beat <= 31; beat++) {
            Check.due("chordSize(" + beat + "), no tones", 0, x.chordSize(beat));
        }
        x.addTone(0, 0);
        x.removeBell(0);
        for (int beat = 0; beat <= 31; beat++) {
            Check.due("chordSize(" + beat + "), the bell removed", 0, x.chordSize(beat));
        }
    }

    /** "the beat, any number" */
    private static void promise38AnyBeat() {
        ValleyBells x = Valleys.full();
        ValleyBells y = lateAndFull(6000, 6100, 6200, 6300);
        y.addCliff(8, 12);
        for (int beat : SILENT) {
            Check.due("chordSize(" + beat + ")", 0, x.chordSize(beat));
            Check.due("chordSize(" + beat + "), late tones", 0, y.chordSize(beat));
        }
    }

    /** "The tone at the position k of the melody, counted from 0, sounds at the beat entry + k" */
    private static void promise38FirstAndLastBeatOfTones() {
        for (int entry : new int[] {0, 1, 14, 15}) {
            ValleyBells x = Valleys.withPitches(6000, 6100);
            Valleys.play(x, 2, 0, 0, 0, 0, 0, 0, 0, 1);
            x.setEntry(2, entry);
            for (int beat = -1; beat <= 31; beat++) {
                boolean sounds = beat >= entry && beat <= entry + 7;
                Check.due("chordSize(" + beat + "), entry " + entry, sounds ? 1 : 0, x.chordSize(beat));
            }
            dueChord(x, entry, 60);
            dueChord(x, entry + 6, 60);
            dueChord(x, entry + 7, 61);
            dueChord(x, entry + 8);
        }
    }

    /** "at the beat of the tone plus the delay", "the note of the tone plus the transposition" */
    private static void promise38FirstAndLastBeatOfEchoes() {
        ValleyBells x = together(60);
        x.addCliff(1, -12);
        x.addCliff(8, 12);
        dueChord(x, 0, 60);
        dueChord(x, 1, 48);
        dueChord(x, 2);
        dueChord(x, 7);
        dueChord(x, 8, 72);
        dueChord(x, 9);
        ValleyBells late = lateAndFull(6000, 6000, 6000, 6000);
        late.addCliff(8, 12);
        dueChord(late, 14);
        dueChord(late, 22, 60, 60, 60, 60);
        dueChord(late, 23, 72, 72, 72, 72);
        dueChord(late, 30, 72, 72, 72, 72);
        dueChord(late, 31);
    }

    /** "Echoes are not answered." */
    private static void promise38EchoesAreNotAnswered() {
        ValleyBells x = together(60);
        for (int k = 0; k < 4; k++) {
            x.addCliff(1, k);
        }
        dueChord(x, 0, 60);
        dueChord(x, 1, 60, 61, 62, 63);
        for (int beat = 2; beat <= 31; beat++) {
            Check.due("chordSize(" + beat + ")", 0, x.chordSize(beat));
        }
    }

    /** "where equal notes are counted separately" */
    private static void promise38EqualNotesAreCountedSeparately() {
        ValleyBells x = Valleys.withPitches(6000);
        for (int herd = 0; herd < 4; herd++) {
            Valleys.play(x, herd, 0, 0);
        }
        for (int k = 0; k < 4; k++) {
            x.addCliff(1, 0);
        }
        dueChord(x, 0, 60, 60, 60, 60);
        dueChord(x, 1, 60, 60, 60, 60, 60, 60, 60, 60, 60, 60, 60, 60, 60, 60, 60, 60, 60, 60, 60, 60);
        dueChord(x, 2, 60, 60, 60, 60, 60, 60, 60, 60, 60, 60, 60, 60, 60, 60, 60, 60);
        dueChord(x, 3);
    }

    /** "in ascending order": four tones and sixteen echoes, told in descending order */
    private static void promises38And39FullChord() {
        ValleyBells x = lateAndFull(7200, 7100, 7000, 6900);
        for (int k = 0; k < 4; k++) {
            x.addCliff(1, 12 - 8 * k);
        }
        dueChord(x, 22, 57, 58, 59, 60, 65, 66, 67, 68, 69, 70, 71, 72, 73, 74, 75, 76, 81, 82, 83, 84);
        dueChord(x, 15, 69, 70, 71, 72);
        dueChord(x, 23, 57, 58, 59, 60, 65, 66, 67, 68, 73, 74, 75, 76, 81, 82, 83, 84);
        Check.noElement("chordNote(22, 20)", () -> x.chordNote(22, 20));
        Check.noElement("chordNote(22, -1)", () -> x.chordNote(22, -1));
    }

    /** "if the chord has no such position" */
    private static void promise39NoSuchPosition() {
        for (int position : new int[] {-1, -2, 20, 21, MIN, MAX}) {
            Refusal.noElement("chordNote(5, " + position + ")", x -> x.chordNote(5, position));
        }
        Refusal.noElementIn(Valleys::empty, "chordNote(0, 0), nothing sounds", x -> x.chordNote(0, 0));
        Refusal.noElementIn(Valleys::busy, "chordNote(1, 0), nothing sounds", x -> x.chordNote(1, 0));
        Refusal.noElementIn(Valleys::busy, "chordNote(4, 1) of 1", x -> x.chordNote(4, 1));
        ValleyBells x = together(60);
        Check.due("chordNote(0, 0) of 1", 60, x.chordNote(0, 0));
        Check.noElement("chordNote(0, 1) of 1", () -> x.chordNote(0, 1));
        Check.due("chordNote(0, 0) after a refusal", 60, x.chordNote(0, 0));
    }

    private static void promise39AnyBeat() {
        for (int beat : SILENT) {
            Refusal.noElement("chordNote(" + beat + ", 0)", x -> x.chordNote(beat, 0));
        }
    }

    private static void promise39LowestAndHighestNote() {
        ValleyBells x = together(36, 84);
        x.addCliff(1, -12);
        x.addCliff(1, 12);
        dueChord(x, 0, 36, 84);
        dueChord(x, 1, 24, 48, 72, 96);
    }

    /** "with the nearest note of its bell at present" */
    private static void promise39NearestNoteAtPresent() {
        ValleyBells x = Valleys.withPitches(6049);
        x.addTone(0, 0);
        x.addCliff(1, 1);
        dueChord(x, 0, 60);
        dueChord(x, 1, 61);
        x.tune(0, 1);
        dueChord(x, 0, 61);
        dueChord(x, 1, 62);
        x.graze(0, 1);
        dueChord(x, 0, 60);
        x.moveBell(0, 3);
        dueChord(x, 0, 60);
        x.undo();
        x.undo();
        dueChord(x, 1, 62);
        x.removeCliff(0);
        dueChord(x, 1);
    }

    // ---- dissonances, dissonancesByClasses and thirds

    private static void duePairs(ValleyBells x, int beat, int due) {
        Check.due("dissonances(" + beat + ")", due, x.dissonances(beat));
        Check.due("dissonancesByClasses(" + beat + ")", due, x.dissonancesByClasses(beat));
    }

    private static void promises40And41FewNotes() {
        duePairs(new ValleyBells(), 0, 0);
        duePairs(together(60), 0, 0);
        duePairs(together(60, 60), 0, 0);
        duePairs(together(60, 61), 0, 1);
        duePairs(together(60, 61, 62), 0, 3);
        duePairs(together(60, 61, 62, 63), 0, 5);
        duePairs(together(60, 60, 61, 61), 0, 4);
        duePairs(together(36, 84, 48, 72), 0, 0);
    }

    /** "|a - b| mod 12": from 0 to 48 semitones, told in both orders */
    private static void promises40To42EachIntervalOfTones() {
        for (int interval = 0; interval <= 48; interval++) {
            boolean isThird = interval % 12 == 3 || interval % 12 == 4;
            int[][] orders = {{36, 36 + interval}, {36 + interval, 36}, {84 - interval, 84}};
            for (int[] notes : orders) {
                ValleyBells x = together(notes);
                duePairs(x, 0, DISSONANT[interval % 12] ? 1 : 0);
                Check.due("thirds, interval " + interval, isThird ? 1 : 0, x.thirds(0));
            }
        }
    }

    /** Up to 72 semitones: echoes of the lowest and the highest bell, one cliff lower and one higher. */
    private static void promises40To42EachIntervalOfEchoes() {
        for (int interval = 48; interval <= 72; interval++) {
            int down = -Math.min(interval - 48, 12);
            int up = Math.max(interval - 60, 0);
            ValleyBells x = together(36, 84);
            x.addCliff(1, down);
            x.addCliff(1, up);
            Check.due("the widest interval", interval, x.chordNote(1, 3) - x.chordNote(1, 0));
            dueEchoes(x, down, up);
        }
    }

    private static void dueEchoes(ValleyBells x, int down, int up) {
        int[] notes = {36 + down, 36 + up, 84 + down, 84 + up};
        int dissonant = 0;
        int thirds = 0;
        for (int low = 0; low < 4; low++) {
            for (int high = low + 1; high < 4; high++) {
                int interval = Math.abs(notes[high] - notes[low]) % 12;
                dissonant += DISSONANT[interval] ? 1 : 0;
                thirds += interval == 3 || interval == 4 ? 1 : 0;
            }
        }
        duePairs(x, 1, dissonant);
        Check.due("thirds(1)", thirds, x.thirds(1));
    }

    /** The most notes: 20, with 190 pairs. */
    private static void promises40And41FullChord() {
        ValleyBells x = lateAndFull(6000, 6000, 6000, 6000);
        for (int k = 0; k < 4; k++) {
            x.addCliff(1, 0);
        }
        duePairs(x, 22, 0);
        Check.due("thirds(22), equal notes", 0, x.thirds(22));
        x.tune(0, 99);
        // C# five times and C fifteen times.
        duePairs(x, 22, 75);
        duePairs(x, 15, 3);
        Check.due("thirds(22), seconds", 0, x.thirds(22));
        ValleyBells thirds = lateAndFull(6000, 6400, 6000, 6300);
        for (int k = 0; k < 4; k++) {
            thirds.addCliff(1, 12 * (k % 2));
        }
        // 60 six times, 72 four times, 64 and 63 three times, 76 and 75 twice. A sixth such as that
        // of 64 and 72 is no third, so only 60 with each of the others and 72 with 76 and 75 are.
        duePairs(thirds, 22, 25);
        Check.due("thirds(22)", 6 * 3 + 6 * 3 + 6 * 2 + 6 * 2 + 4 * 2 + 4 * 2, thirds.thirds(22));
    }

    /** Each question about a beat comes right after one about another beat. */
    private static void promises38To42EachBeatAnew() {
        ValleyBells x = together(60, 61, 64);
        for (int k = 0; k < 2; k++) {
            Check.due("chordSize(0)", 3, x.chordSize(0));
            duePairs(x, 1, 0);
            Check.due("thirds(0)", 2, x.thirds(0));
            Check.due("thirds(1)", 0, x.thirds(1));
            Check.due("dissonances(0)", 1, x.dissonances(0));
            Check.due("chordSize(1)", 0, x.chordSize(1));
            Check.due("dissonancesByClasses(0)", 1, x.dissonancesByClasses(0));
            Check.noElement("chordNote(1, 0)", () -> x.chordNote(1, 0));
            Check.due("chordNote(0, 2)", 64, x.chordNote(0, 2));
            Check.due("writeChord(1)", 0, x.writeChord(1));
            Check.due("writeChord(0)", 8, x.writeChord(0));
        }
    }

    private static void promises40To42AnyBeat() {
        ValleyBells x = lateAndFull(6000, 6100, 6300, 6400);
        x.addCliff(8, 12);
        for (int beat : SILENT) {
            duePairs(x, beat, 0);
            Check.due("thirds(" + beat + ")", 0, x.thirds(beat));
        }
        for (int beat = 15; beat <= 30; beat++) {
            Check.due("thirds(" + beat + ")", 3, x.thirds(beat));
        }
    }

    private static void promise42FewNotes() {
        Check.due("thirds, no notes", 0, new ValleyBells().thirds(0));
        Check.due("thirds, one note", 0, together(60).thirds(0));
        Check.due("thirds, equal notes", 0, together(60, 60).thirds(0));
        Check.due("thirds, 2 semitones", 0, together(60, 62).thirds(0));
        Check.due("thirds, 3 semitones", 1, together(60, 63).thirds(0));
        Check.due("thirds, 4 semitones", 1, together(60, 64).thirds(0));
        Check.due("thirds, 5 semitones", 0, together(60, 65).thirds(0));
        Check.due("thirds, 8 semitones", 0, together(60, 68).thirds(0));
        Check.due("thirds, 9 semitones", 0, together(60, 69).thirds(0));
        Check.due("thirds, 15 semitones", 1, together(60, 75).thirds(0));
        Check.due("thirds, two pairs of equal notes", 4, together(60, 60, 64, 64).thirds(0));
    }

    // ---- lastBeat, totalDissonances and harshestBeat

    /** "if nothing sounds at any beat" */
    private static void promise43NothingSounds() {
        Refusal.noElementIn(Valleys::empty, "lastBeat, a new object", x -> x.lastBeat());
        Refusal.noElementIn(ChordBoundsTest::silent, "lastBeat, no tones", x -> x.lastBeat());
    }

    /** Bells, entries and cliffs, but no tones. */
    private static ValleyBells silent() {
        ValleyBells x = Valleys.full();
        for (int herd = 0; herd < 4; herd++) {
            x.clearMelody(herd);
        }
        return x;
    }

    private static void promise43FirstAndLastBeat() {
        ValleyBells x = together(60);
        Check.due("lastBeat, the first one possible", 0, x.lastBeat());
        x.addCliff(1, 0);
        Check.due("lastBeat, an echo", 1, x.lastBeat());
        x.addCliff(8, 0);
        Check.due("lastBeat, the later echo", 8, x.lastBeat());
        x.removeCliff(1);
        x.removeCliff(0);
        x.setEntry(0, 15);
        Check.due("lastBeat, the last entry", 15, x.lastBeat());
        Valleys.play(x, 0, 0, 0, 0, 0, 0, 0, 0);
        Check.due("lastBeat, the last tone possible", 22, x.lastBeat());
        x.addCliff(7, 0);
        Check.due("lastBeat", 29, x.lastBeat());
        x.addCliff(8, 0);
        Check.due("lastBeat, the last one possible", 30, x.lastBeat());
        x.addBell(0, 6100);
        x.addTone(1, 1);
        x.removeBell(0);
        Check.due("lastBeat, the other herd", 8, x.lastBeat());
    }

    private static void promise44NothingSounds() {
        Check.due("totalDissonances, a new object", 0, new ValleyBells().totalDissonances());
        Check.due("totalDissonances, no tones", 0, silent().totalDissonances());
        Check.due("totalDissonances, one tone", 0, together(60).totalDissonances());
        Check.due("totalDissonances, consonances", 0, together(60, 64, 67).totalDissonances());
    }

    /** "at all beats together" */
    private static void promise44FirstAndLastBeat() {
        ValleyBells first = together(60, 61);
        Check.due("totalDissonances, at beat 0", 1, first.totalDissonances());
        ValleyBells last = Valleys.withPitches(6000, 6100);
        for (int herd = 0; herd < 2; herd++) {
            Valleys.play(last, herd, 0, 0, 0, 0, 0, 0, 0, herd);
            last.setEntry(herd, 15);
        }
        Check.due("totalDissonances, at beat 22", 1, last.totalDissonances());
        last.addCliff(8, 0);
        Check.due("dissonances(30)", 1, last.dissonances(30));
        Check.due("totalDissonances, at the beats 22 and 30", 2, last.totalDissonances());
        last.tune(1, -51);
        Check.due("totalDissonances, now equal notes", 0, last.totalDissonances());
    }

    private static void promise44FullMelodies() {
        ValleyBells x = lateAndFull(6000, 6100, 6000, 6000);
        for (int k = 0; k < 4; k++) {
            x.addCliff(1, 0);
        }
        // 3 pairs at beat 15, 75 at each of the 7 beats that follow, and 4 times 12 at beat 23.
        Check.due("totalDissonances", 3 + 7 * 75 + 48, x.totalDissonances());
        long sum = 0;
        for (int beat = 0; beat <= 30; beat++) {
            sum += x.dissonances(beat);
        }
        Check.due("the sum of all beats", 576, sum);
    }

    private static void promise45NothingSounds() {
        Refusal.noElementIn(Valleys::empty, "harshestBeat, a new object", x -> x.harshestBeat());
        Refusal.noElementIn(ChordBoundsTest::silent, "harshestBeat, no tones", x -> x.harshestBeat());
    }

    /** "the earliest one at which something sounds": no beat has a dissonant pair */
    private static void promise45NoDissonances() {
        for (int entry = 0; entry <= 15; entry++) {
            ValleyBells x = together(60, 64);
            x.setEntry(0, entry);
            x.setEntry(1, 15);
            Check.due("harshestBeat, entry " + entry, entry, x.harshestBeat());
        }
    }

    private static void promise45EarliestOfSeveral() {
        ValleyBells x = Valleys.withPitches(6000, 6100);
        Valleys.play(x, 0, 0, 0, 0, 0);
        Valleys.play(x, 1, 0, 1, 1, 0);
        Check.due("harshestBeat of 1 and 2", 1, x.harshestBeat());
        Valleys.play(x, 2, 0, 0, 1, 0);
        // Beat 1: 60 60 61; beat 2: 60 61 61.
        Check.due("harshestBeat, again equally many", 1, x.harshestBeat());
        Valleys.play(x, 3, 0, 0, 1, 0);
        // Beat 1: 60 60 60 61 with 3 pairs; beat 2: 60 61 61 61 with 3 pairs.
        Check.due("harshestBeat, once more", 1, x.harshestBeat());
        x.setEntry(2, 1);
        // Beat 1: 60 60 60 61 with 3 pairs; beat 2: 60 60 61 61 with 4 pairs.
        Check.due("harshestBeat, the later one", 2, x.harshestBeat());
    }

    private static void promise45FirstAndLastBeat() {
        Check.due("harshestBeat, the first one possible", 0, together(60, 61).harshestBeat());
        Check.due("harshestBeat, one tone", 0, together(60).harshestBeat());
        ValleyBells x = Valleys.withPitches(6000, 6100);
        for (int herd = 0; herd < 2; herd++) {
            Valleys.play(x, herd, 0, 0, 0, 0, 0, 0, 0, herd);
            x.setEntry(herd, 15);
        }
        Check.due("harshestBeat, the last tones possible", 22, x.harshestBeat());
        x.addCliff(8, 0);
        Check.due("harshestBeat, the earlier of 22 and 30", 22, x.harshestBeat());
        x.addCliff(8, 0);
        Check.due("harshestBeat, the last one possible", 30, x.harshestBeat());
    }

    // ---- isConsistent

    private static void promise46EmptyAndFull() {
        Check.due("isConsistent, a new object", true, new ValleyBells().isConsistent());
        ValleyBells x = Valleys.full();
        Check.due("isConsistent, full", true, x.isConsistent());
        for (int k = 11; k >= 0; k--) {
            x.removeBell(k / 2);
            Check.due("isConsistent, " + k + " bells left", true, x.isConsistent());
        }
        x.restore();
        Check.due("isConsistent after restore", true, x.isConsistent());
    }

    private static void queriesChangeNothing() {
        ValleyBells x = Valleys.busy();
        String before = Valleys.answers(x);
        for (int beat = 0; beat <= 31; beat++) {
            x.dissonances(beat);
            x.dissonancesByClasses(beat);
            x.thirds(beat);
        }
        Check.due("all questions after those of chords", before, Valleys.answers(x));
        Check.due("undo after those of chords", 6, x.undo());
    }
}
