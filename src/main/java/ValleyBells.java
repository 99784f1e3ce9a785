import java.util.NoSuchElementException;

/**
 * Cattle bells that are tuned to the key of a valley, with melodies of herds, echoes from cliffs
 * and an analysis of the resulting chords.
 */
public final class ValleyBells {
    // Every change answers a number from 0, so a negative answer can tell why it was refused:
    // a program has to learn of a refusal without an exception.
    private static final int NO_SUCH_INDEX = -1;
    private static final int BAD_ARGUMENT = -2;
    private static final int BAD_STATE = -3;

    private static final int NONE = -1;
    private static final int HERDS = 4;
    private static final int SEMITONES = 12;
    private static final int CENTS = 100;
    // The latest sound: an entry of 15, the last of 8 tones, a delay of 8.
    private static final int LAST_BEAT = 30;
    // For each interval from 0 to 11, 1 if it belongs to the kind.
    private static final int[] CONSONANCES = {1, 0, 0, 1, 1, 1, 0, 1, 1, 1, 0, 0};
    private static final int[] THIRDS = {0, 0, 0, 1, 1, 0, 0, 0, 0, 0, 0, 0};
    // Two characters for each pitch class, a blank where the name has only one.
    private static final String NOTE_NAMES = "C C#D D#E F F#G G#A A#B ";
    private static final Command[] COMMANDS = Command.values();

    private final Valley valley;
    private final Valley saved;
    private final History history;
    private final Program program;
    private final Chord chord;
    private final Key trialKey;
    private final StringBuilder line;
    private boolean isSaved;
    private int errorPosition;
    private int failedCommand;

    public ValleyBells() {
        valley = new Valley();
        saved = new Valley();
        history = new History();
        program = new Program();
        chord = new Chord();
        trialKey = new Key();
        line = new StringBuilder();
        isSaved = false;
        errorPosition = NONE;
        failedCommand = NONE;
    }

    // ---- bells

    public int addBell(int herd, int pitch)
            throws IndexOutOfBoundsException, IllegalArgumentException, IllegalStateException {
        return change(Command.ADD_BELL, herd, pitch);
    }

    public int removeBell(int bell) throws IndexOutOfBoundsException {
        return change(Command.REMOVE_BELL, bell, 0);
    }

    public int tune(int bell, int cents)
            throws IndexOutOfBoundsException, IllegalArgumentException, IllegalStateException {
        return change(Command.TUNE, bell, cents);
    }

    public int moveBell(int bell, int herd) throws IndexOutOfBoundsException {
        return change(Command.MOVE_BELL, bell, herd);
    }

    public int graze(int herd, int days) throws IndexOutOfBoundsException, IllegalArgumentException {
        return change(Command.GRAZE, herd, days);
    }

    // ---- key

    public int setKey(int tonic, boolean isMinor) throws IllegalArgumentException {
        return change(Command.SET_KEY, tonic, isMinor ? 1 : 0);
    }

    public int setTolerance(int cents) throws IllegalArgumentException {
        return change(Command.SET_TOLERANCE, cents, 0);
    }

    // ---- melodies and cliffs

    public int addTone(int herd, int bell) throws IndexOutOfBoundsException, IllegalStateException {
        return change(Command.ADD_TONE, herd, bell);
    }

    public int clearMelody(int herd) throws IndexOutOfBoundsException {
        return change(Command.CLEAR_MELODY, herd, 0);
    }

    public int setEntry(int herd, int beats) throws IndexOutOfBoundsException, IllegalArgumentException {
        return change(Command.SET_ENTRY, herd, beats);
    }

    public int addCliff(int delay, int semitones) throws IllegalArgumentException, IllegalStateException {
        return change(Command.ADD_CLIFF, delay, semitones);
    }

    public int removeCliff(int cliff) throws IndexOutOfBoundsException {
        return change(Command.REMOVE_CLIFF, cliff, 0);
    }

    // ---- queries about bells

    public int bellCount() {
        return valley.bells.count;
    }

    public int herdOf(int bell) throws IndexOutOfBoundsException {
        requireBell(bell);
        return valley.bells.herds[bell];
    }

    public int pitch(int bell) throws IndexOutOfBoundsException {
        requireBell(bell);
        return valley.bells.pitches[bell];
    }

    public int nearestNote(int bell) throws IndexOutOfBoundsException {
        requireBell(bell);
        return valley.bells.noteOf(bell);
    }

    public int deviation(int bell) throws IndexOutOfBoundsException {
        requireBell(bell);
        return valley.bells.deviationOf(bell);
    }

    public boolean isInKey(int bell) throws IndexOutOfBoundsException {
        requireBell(bell);
        return valley.key.accepts(valley.bells.pitches[bell]);
    }

    public boolean isTuned() {
        return valley.bells.countIn(valley.key) == valley.bells.count;
    }

    public int centsToKey(int bell) throws IndexOutOfBoundsException {
        requireBell(bell);
        return valley.key.centsByTrial(valley.bells.pitches[bell]);
    }

    public int centsToKeyByNotes(int bell) throws IndexOutOfBoundsException {
        requireBell(bell);
        return valley.key.centsByNotes(valley.bells.pitches[bell]);
    }

    public int bellAtRank(int rank) throws NoSuchElementException {
        int bell = valley.bells.ranked(rank);
        if (bell == NONE) {
            throw new NoSuchElementException("no such rank");
        }
        return bell;
    }

    public double meanDeviation() throws ArithmeticException {
        requireSomeBell();
        return (double) valley.bells.absoluteDeviations() / (double) valley.bells.count;
    }

    public float inKeyShare() throws ArithmeticException {
        requireSomeBell();
        return (float) valley.bells.countIn(valley.key) / (float) valley.bells.count;
    }

    // ---- queries about keys

    public int tonic() {
        return valley.key.tonic;
    }

    public boolean isMinor() {
        return valley.key.isMinor;
    }

    public int tolerance() {
        return valley.key.tolerance;
    }

    public boolean isInScale(int pitchClass) throws IllegalArgumentException {
        if (!isWithin(pitchClass, 0, SEMITONES - 1)) {
            throw new IllegalArgumentException("no such pitch class");
        }
        return valley.key.hasNote(pitchClass);
    }

    public int bestTonic(boolean isMinor) {
        trialKey.copyFrom(valley.key);
        trialKey.isMinor = isMinor;
        int best = 0;
        int most = 0;
        for (int tonic = 0; tonic < SEMITONES; tonic++) {
            trialKey.tonic = tonic;
            int inKey = valley.bells.countIn(trialKey);
            if (inKey > most) {
                most = inKey;
                best = tonic;
            }
        }
        return best;
    }

    // ---- queries about melodies and cliffs

    public int melodyLength(int herd) throws IndexOutOfBoundsException {
        requireHerd(herd);
        return valley.melodies.lengths[herd];
    }

    public int tone(int herd, int position) throws IndexOutOfBoundsException, NoSuchElementException {
        requireHerd(herd);
        if (!valley.melodies.has(herd, position)) {
            throw new NoSuchElementException("no such position");
        }
        return valley.melodies.bellOf(herd, position);
    }

    public int entry(int herd) throws IndexOutOfBoundsException {
        requireHerd(herd);
        return valley.melodies.entries[herd];
    }

    public int canonInterval(int leader, int follower)
            throws IndexOutOfBoundsException, NoSuchElementException {
        requireHerd(leader);
        requireHerd(follower);
        if (!valley.isCanon(leader, follower)) {
            throw new NoSuchElementException("no canon");
        }
        return valley.intervalAt(leader, follower, 0);
    }

    public int cliffCount() {
        return valley.cliffs.count;
    }

    public int delay(int cliff) throws IndexOutOfBoundsException {
        requireCliff(cliff);
        return valley.cliffs.delays[cliff];
    }

    public int transposition(int cliff) throws IndexOutOfBoundsException {
        requireCliff(cliff);
        return valley.cliffs.transpositions[cliff];
    }

    // ---- queries about chords

    public int chordSize(int beat) {
        chord.listen(valley, beat);
        return chord.size;
    }

    public int chordNote(int beat, int position) throws NoSuchElementException {
        chord.listen(valley, beat);
        if (!isWithin(position, 0, chord.size - 1)) {
            throw new NoSuchElementException("no such position");
        }
        return chord.notes[position];
    }

    public int dissonances(int beat) {
        chord.listen(valley, beat);
        return chord.dissonantPairs();
    }

    public int dissonancesByClasses(int beat) {
        chord.listen(valley, beat);
        return chord.dissonantPairsByClasses();
    }

    public int thirds(int beat) {
        chord.listen(valley, beat);
        return chord.pairsOf(THIRDS);
    }

    public int lastBeat() throws NoSuchElementException {
        int last = NONE;
        for (int beat = 0; beat <= LAST_BEAT; beat++) {
            chord.listen(valley, beat);
            if (chord.size > 0) {
                last = beat;
            }
        }
        requireSound(last);
        return last;
    }

    public long totalDissonances() {
        long total = 0;
        for (int beat = 0; beat <= LAST_BEAT; beat++) {
            chord.listen(valley, beat);
            total += chord.dissonantPairs();
        }
        return total;
    }

    public int harshestBeat() throws NoSuchElementException {
        int harshest = NONE;
        int most = NONE;
        for (int beat = 0; beat <= LAST_BEAT; beat++) {
            chord.listen(valley, beat);
            int pairs = chord.dissonantPairs();
            if (chord.size > 0 && pairs > most) {
                most = pairs;
                harshest = beat;
            }
        }
        requireSound(harshest);
        return harshest;
    }

    public boolean isConsistent() {
        // The tones come first: chords are only heard from bells that exist.
        return valley.melodies.useOnly(valley.bells) && centsAgree() && dissonancesAgree();
    }

    // ---- programs

    public int append(char character) throws IllegalStateException {
        if (program.isFull()) {
            throw new IllegalStateException("the text buffer is full");
        }
        return program.put(character);
    }

    public int run() throws IllegalArgumentException, UnsupportedOperationException {
        int error = program.read();
        program.empty();
        if (error != NONE) {
            errorPosition = error;
            throw new IllegalArgumentException("the text is not a program");
        }
        history.begin(valley);
        int failed = program.failureIn(valley);
        if (failed != NONE) {
            valley.copyFrom(history.beginning());
            failedCommand = failed;
            throw new UnsupportedOperationException("a command failed");
        }
        history.keep();
        return program.count;
    }

    public int errorPosition() throws NoSuchElementException {
        if (errorPosition == NONE) {
            throw new NoSuchElementException("no error position was stored");
        }
        return errorPosition;
    }

    public int failedCommand() throws NoSuchElementException {
        if (failedCommand == NONE) {
            throw new NoSuchElementException("no failed command was stored");
        }
        return failedCommand;
    }

    // ---- output

    public int writeBell(int bell) throws IndexOutOfBoundsException {
        requireBell(bell);
        int note = valley.bells.noteOf(bell);
        line.setLength(0);
        line.append(bell).append('h').append(valley.bells.herds[bell]).append(':');
        writeName(Math.floorMod(note, SEMITONES));
        line.append(Math.floorDiv(note, SEMITONES) - 1);
        writeDeviation(valley.bells.deviationOf(bell));
        if (!valley.key.accepts(valley.bells.pitches[bell])) {
            line.append('!');
        }
        return line.length();
    }

    public int writeChord(int beat) {
        chord.listen(valley, beat);
        line.setLength(0);
        for (int k = 0; k < chord.size; k++) {
            if (k > 0) {
                line.append(' ');
            }
            line.append(chord.notes[k]);
        }
        return line.length();
    }

    public char outputAt(int index) throws IndexOutOfBoundsException {
        if (!isWithin(index, 0, line.length() - 1)) {
            throw new IndexOutOfBoundsException("no such character");
        }
        return line.charAt(index);
    }

    // ---- undo and snapshot

    public int undo() throws IllegalStateException {
        if (history.count == 0) {
            throw new IllegalStateException("no call can be undone");
        }
        history.stepBack();
        valley.copyFrom(history.beginning());
        return history.count;
    }

    public void save() {
        saved.copyFrom(valley);
        isSaved = true;
    }

    public void restore() throws IllegalStateException {
        if (!isSaved) {
            throw new IllegalStateException("no state was saved");
        }
        valley.copyFrom(saved);
        history.forget();
    }

    // ---- helpers of the face

    private int change(Command command, int first, int second) {
        history.begin(valley);
        int answer = valley.carryOut(command, first, second);
        if (answer == NO_SUCH_INDEX) {
            throw new IndexOutOfBoundsException("an index is out of range");
        }
        if (answer == BAD_ARGUMENT) {
            throw new IllegalArgumentException("an argument is out of range");
        }
        if (answer == BAD_STATE) {
            throw new IllegalStateException("the valley does not allow it");
        }
        history.keep();
        return answer;
    }

    private void requireBell(int bell) {
        if (!valley.bells.has(bell)) {
            throw new IndexOutOfBoundsException("no such bell");
        }
    }

    private void requireSomeBell() {
        if (valley.bells.count == 0) {
            throw new ArithmeticException("there are no bells");
        }
    }

    private static void requireHerd(int herd) {
        if (!isHerd(herd)) {
            throw new IndexOutOfBoundsException("no such herd");
        }
    }

    private void requireCliff(int cliff) {
        if (!valley.cliffs.has(cliff)) {
            throw new IndexOutOfBoundsException("no such cliff");
        }
    }

    private static void requireSound(int beat) {
        if (beat == NONE) {
            throw new NoSuchElementException("nothing sounds");
        }
    }

    private boolean centsAgree() {
        for (int bell = 0; bell < valley.bells.count; bell++) {
            int pitch = valley.bells.pitches[bell];
            if (valley.key.centsByTrial(pitch) != valley.key.centsByNotes(pitch)) {
                return false;
            }
        }
        return true;
    }

    private boolean dissonancesAgree() {
        for (int beat = 0; beat <= LAST_BEAT; beat++) {
            chord.listen(valley, beat);
            if (chord.dissonantPairs() != chord.dissonantPairsByClasses()) {
                return false;
            }
        }
        return true;
    }

    private void writeName(int pitchClass) {
        line.append(NOTE_NAMES.charAt(2 * pitchClass));
        char second = NOTE_NAMES.charAt(2 * pitchClass + 1);
        if (second != ' ') {
            line.append(second);
        }
    }

    private void writeDeviation(int cents) {
        if (cents > 0) {
            line.append('+');
        }
        // A number below 0 brings its own sign.
        if (cents != 0) {
            line.append(cents);
        }
    }

    private static boolean isWithin(int number, int lowest, int highest) {
        return number >= lowest && number <= highest;
    }

    private static boolean isHerd(int herd) {
        return isWithin(herd, 0, HERDS - 1);
    }

    private static boolean belongs(int semitones, int[] kind) {
        return kind[Math.floorMod(semitones, SEMITONES)] == 1;
    }

    private static int nearest(int pitch) {
        return Math.floorDiv(pitch + CENTS / 2, CENTS);
    }

    private static int offset(int pitch) {
        return pitch - CENTS * nearest(pitch);
    }

    /**
     * The changes that a program can ask for, each with the form of its command: # is a digit,
     * ? a digit that may be missing, S a sign, M a mode, and anything else stands for itself.
     */
    private enum Command {
        ADD_BELL("bell # ####"),
        REMOVE_BELL("remove #?"),
        TUNE("tune #?S#?"),
        MOVE_BELL("move #? #"),
        SET_KEY("key #?M"),
        SET_TOLERANCE("tolerance #?"),
        ADD_TONE("tone # #?"),
        CLEAR_MELODY("clear #"),
        SET_ENTRY("entry # #?"),
        ADD_CLIFF("cliff #S#?"),
        REMOVE_CLIFF("fell #"),
        GRAZE("graze # #?");

        private final String form;

        Command(String form) {
            this.form = form;
        }
    }

    /** The key with its tolerance. */
    private static final class Key {
        // For each number of semitones above the tonic, 1 if the note belongs to the scale.
        private static final int[] MAJOR = {1, 0, 1, 0, 1, 1, 0, 1, 0, 1, 0, 1};
        private static final int[] MINOR = {1, 0, 1, 1, 0, 1, 0, 1, 1, 0, 1, 0};
        private static final int FIRST_TOLERANCE = 10;
        private static final int MOST_TOLERANCE = 50;

        private int tonic = 0;
        private boolean isMinor = false;
        private int tolerance = FIRST_TOLERANCE;

        void copyFrom(Key other) {
            tonic = other.tonic;
            isMinor = other.isMinor;
            tolerance = other.tolerance;
        }

        boolean choose(int newTonic, boolean newIsMinor) {
            if (!isWithin(newTonic, 0, SEMITONES - 1)) {
                return false;
            }
            tonic = newTonic;
            isMinor = newIsMinor;
            return true;
        }

        int tolerate(int cents) {
            if (!isWithin(cents, 0, MOST_TOLERANCE)) {
                return BAD_ARGUMENT;
            }
            int previous = tolerance;
            tolerance = cents;
            return previous;
        }

        boolean hasNote(int note) {
            return belongs(note - tonic, isMinor ? MINOR : MAJOR);
        }

        boolean accepts(int pitch) {
            return hasNote(nearest(pitch)) && Math.abs(offset(pitch)) <= tolerance;
        }

        private boolean isExact(int pitch) {
            return offset(pitch) == 0 && hasNote(nearest(pitch));
        }

        int centsByTrial(int pitch) {
            // Each octave holds a note of the scale.
            for (int cents = 0; cents <= CENTS * SEMITONES; cents++) {
                if (isExact(pitch + cents)) {
                    return cents;
                }
                if (isExact(pitch - cents)) {
                    return -cents;
                }
            }
            return 0;
        }

        int centsByNotes(int pitch) {
            int up = CENTS * noteAbove(pitch) - pitch;
            int down = pitch - CENTS * noteBelow(pitch);
            return up <= down ? up : -down;
        }

        private int noteAbove(int pitch) {
            int note = Math.floorDiv(pitch + CENTS - 1, CENTS);
            for (int k = 0; k < SEMITONES && !hasNote(note); k++) {
                note++;
            }
            return note;
        }

        private int noteBelow(int pitch) {
            int note = Math.floorDiv(pitch, CENTS);
            for (int k = 0; k < SEMITONES && !hasNote(note); k++) {
                note--;
            }
            return note;
        }
    }

    /** The bells with their herds and pitches. */
    private static final class Bells {
        private static final int LIMIT = 12;
        private static final int LOWEST = 3600;
        private static final int HIGHEST = 8400;

        private final int[] herds = new int[LIMIT];
        private final int[] pitches = new int[LIMIT];
        private int count = 0;

        void copyFrom(Bells other) {
            System.arraycopy(other.herds, 0, herds, 0, LIMIT);
            System.arraycopy(other.pitches, 0, pitches, 0, LIMIT);
            count = other.count;
        }

        boolean has(int bell) {
            return isWithin(bell, 0, count - 1);
        }

        int hang(int herd, int pitch) {
            if (!isHerd(herd)) {
                return NO_SUCH_INDEX;
            }
            if (!isWithin(pitch, LOWEST, HIGHEST)) {
                return BAD_ARGUMENT;
            }
            if (count >= LIMIT) {
                return BAD_STATE;
            }
            herds[count] = herd;
            pitches[count] = pitch;
            count++;
            return count - 1;
        }

        void takeDown(int bell) {
            for (int k = bell; k < count - 1; k++) {
                herds[k] = herds[k + 1];
                pitches[k] = pitches[k + 1];
            }
            count--;
        }

        int shift(int bell, int cents) {
            if (!has(bell)) {
                return NO_SUCH_INDEX;
            }
            if (!isWithin(cents, -99, 99)) {
                return BAD_ARGUMENT;
            }
            if (!isWithin(pitches[bell] + cents, LOWEST, HIGHEST)) {
                return BAD_STATE;
            }
            pitches[bell] += cents;
            return pitches[bell];
        }

        int drive(int bell, int herd) {
            if (!has(bell) || !isHerd(herd)) {
                return NO_SUCH_INDEX;
            }
            int previous = herds[bell];
            herds[bell] = herd;
            return previous;
        }

        int wear(int herd, int days, Key key) {
            if (!isHerd(herd)) {
                return NO_SUCH_INDEX;
            }
            if (!isWithin(days, 1, 99)) {
                return BAD_ARGUMENT;
            }
            int lost = 0;
            for (int bell = 0; bell < count; bell++) {
                boolean wasInKey = key.accepts(pitches[bell]);
                if (herds[bell] == herd) {
                    pitches[bell] = Math.max(LOWEST, pitches[bell] - days);
                }
                if (wasInKey && !key.accepts(pitches[bell])) {
                    lost++;
                }
            }
            return lost;
        }

        int noteOf(int bell) {
            return nearest(pitches[bell]);
        }

        int deviationOf(int bell) {
            return offset(pitches[bell]);
        }

        int countIn(Key key) {
            int inKey = 0;
            for (int bell = 0; bell < count; bell++) {
                if (key.accepts(pitches[bell])) {
                    inKey++;
                }
            }
            return inKey;
        }

        int absoluteDeviations() {
            int sum = 0;
            for (int bell = 0; bell < count; bell++) {
                sum += Math.abs(deviationOf(bell));
            }
            return sum;
        }

        int ranked(int rank) {
            for (int bell = 0; bell < count; bell++) {
                if (bellsBefore(bell) == rank) {
                    return bell;
                }
            }
            return NONE;
        }

        private int bellsBefore(int bell) {
            int before = 0;
            for (int other = 0; other < count; other++) {
                boolean isTieBefore = pitches[other] == pitches[bell] && other < bell;
                if (pitches[other] < pitches[bell] || isTieBefore) {
                    before++;
                }
            }
            return before;
        }
    }

    /** The melody and the entry of each herd. */
    private static final class Melodies {
        private static final int TONES = 8;
        private static final int LATEST_ENTRY = 15;

        private final int[] lengths = new int[HERDS];
        private final int[] entries = new int[HERDS];
        // The tones of a herd stand from herd * TONES on.
        private final int[] tones = new int[HERDS * TONES];

        void copyFrom(Melodies other) {
            System.arraycopy(other.lengths, 0, lengths, 0, HERDS);
            System.arraycopy(other.entries, 0, entries, 0, HERDS);
            System.arraycopy(other.tones, 0, tones, 0, HERDS * TONES);
        }

        boolean has(int herd, int position) {
            return isWithin(position, 0, lengths[herd] - 1);
        }

        int bellOf(int herd, int position) {
            return tones[herd * TONES + position];
        }

        int lengthen(int herd, int bell, Bells bells) {
            if (!isHerd(herd) || !bells.has(bell)) {
                return NO_SUCH_INDEX;
            }
            if (lengths[herd] >= TONES) {
                return BAD_STATE;
            }
            tones[herd * TONES + lengths[herd]] = bell;
            lengths[herd]++;
            return lengths[herd];
        }

        int silence(int herd) {
            if (!isHerd(herd)) {
                return NO_SUCH_INDEX;
            }
            int previous = lengths[herd];
            lengths[herd] = 0;
            return previous;
        }

        int enter(int herd, int beats) {
            if (!isHerd(herd)) {
                return NO_SUCH_INDEX;
            }
            if (!isWithin(beats, 0, LATEST_ENTRY)) {
                return BAD_ARGUMENT;
            }
            int previous = entries[herd];
            entries[herd] = beats;
            return previous;
        }

        /** Removes the tones of a bell and renumbers those of the bells behind it. */
        int forgetBell(int bell) {
            int removed = 0;
            for (int herd = 0; herd < HERDS; herd++) {
                removed += forgetBellIn(herd, bell);
            }
            return removed;
        }

        private int forgetBellIn(int herd, int bell) {
            int start = herd * TONES;
            int previous = lengths[herd];
            int kept = 0;
            for (int k = 0; k < previous; k++) {
                int tone = tones[start + k];
                if (tone != bell) {
                    tones[start + kept] = tone > bell ? tone - 1 : tone;
                    kept++;
                }
            }
            lengths[herd] = kept;
            return previous - kept;
        }

        int bellAtBeat(int herd, int beat) {
            int position = beat - entries[herd];
            return has(herd, position) ? bellOf(herd, position) : NONE;
        }

        boolean useOnly(Bells bells) {
            for (int herd = 0; herd < HERDS; herd++) {
                for (int k = 0; k < lengths[herd]; k++) {
                    if (!bells.has(bellOf(herd, k))) {
                        return false;
                    }
                }
            }
            return true;
        }
    }

    /** The cliffs with their delays and transpositions. */
    private static final class Cliffs {
        private static final int LIMIT = 4;
        private static final int LONGEST_DELAY = 8;

        private final int[] delays = new int[LIMIT];
        private final int[] transpositions = new int[LIMIT];
        private int count = 0;

        void copyFrom(Cliffs other) {
            System.arraycopy(other.delays, 0, delays, 0, LIMIT);
            System.arraycopy(other.transpositions, 0, transpositions, 0, LIMIT);
            count = other.count;
        }

        boolean has(int cliff) {
            return isWithin(cliff, 0, count - 1);
        }

        int raise(int delay, int semitones) {
            if (!isWithin(delay, 1, LONGEST_DELAY) || !isWithin(semitones, -SEMITONES, SEMITONES)) {
                return BAD_ARGUMENT;
            }
            if (count >= LIMIT) {
                return BAD_STATE;
            }
            delays[count] = delay;
            transpositions[count] = semitones;
            count++;
            return count - 1;
        }

        int fell(int cliff) {
            if (!has(cliff)) {
                return NO_SUCH_INDEX;
            }
            for (int k = cliff; k < count - 1; k++) {
                delays[k] = delays[k + 1];
                transpositions[k] = transpositions[k + 1];
            }
            count--;
            return count;
        }
    }

    /** All that undo, save and restore concern. */
    private static final class Valley {
        private final Key key = new Key();
        private final Bells bells = new Bells();
        private final Melodies melodies = new Melodies();
        private final Cliffs cliffs = new Cliffs();

        void copyFrom(Valley other) {
            key.copyFrom(other.key);
            bells.copyFrom(other.bells);
            melodies.copyFrom(other.melodies);
            cliffs.copyFrom(other.cliffs);
        }

        /** Answers what the method of the face does, or changes nothing and answers why not. */
        int carryOut(Command command, int first, int second) {
            switch (command) {
                case ADD_BELL:
                    return bells.hang(first, second);
                case REMOVE_BELL:
                    return takeAway(first);
                case TUNE:
                    return bells.shift(first, second);
                case MOVE_BELL:
                    return bells.drive(first, second);
                case SET_KEY:
                    return key.choose(first, second == 1) ? bells.countIn(key) : BAD_ARGUMENT;
                case SET_TOLERANCE:
                    return key.tolerate(first);
                case ADD_TONE:
                    return melodies.lengthen(first, second, bells);
                case CLEAR_MELODY:
                    return melodies.silence(first);
                case SET_ENTRY:
                    return melodies.enter(first, second);
                case ADD_CLIFF:
                    return cliffs.raise(first, second);
                case REMOVE_CLIFF:
                    return cliffs.fell(first);
                case GRAZE:
                    return bells.wear(first, second, key);
                default:
                    return BAD_STATE;
            }
        }

        private int takeAway(int bell) {
            if (!bells.has(bell)) {
                return NO_SUCH_INDEX;
            }
            bells.takeDown(bell);
            return melodies.forgetBell(bell);
        }

        boolean isCanon(int leader, int follower) {
            int length = melodies.lengths[leader];
            if (length == 0 || length != melodies.lengths[follower]) {
                return false;
            }
            for (int k = 1; k < length; k++) {
                if (intervalAt(leader, follower, k) != intervalAt(leader, follower, 0)) {
                    return false;
                }
            }
            return true;
        }

        int intervalAt(int leader, int follower, int position) {
            return noteAt(follower, position) - noteAt(leader, position);
        }

        private int noteAt(int herd, int position) {
            return bells.noteOf(melodies.bellOf(herd, position));
        }
    }

    /** The notes of one beat in ascending order; made once and filled for each question. */
    private static final class Chord {
        private static final int LIMIT = HERDS * (1 + Cliffs.LIMIT);

        private final int[] notes = new int[LIMIT];
        private final int[] classCounts = new int[SEMITONES];
        private int size = 0;

        void listen(Valley valley, int beat) {
            size = 0;
            // Beats far away would overflow when a delay is subtracted.
            if (!isWithin(beat, 0, LAST_BEAT)) {
                return;
            }
            addTones(valley, beat, 0);
            for (int cliff = 0; cliff < valley.cliffs.count; cliff++) {
                addTones(valley, beat - valley.cliffs.delays[cliff], valley.cliffs.transpositions[cliff]);
            }
        }

        private void addTones(Valley valley, int beat, int transposition) {
            for (int herd = 0; herd < HERDS; herd++) {
                int bell = valley.melodies.bellAtBeat(herd, beat);
                if (valley.bells.has(bell)) {
                    insert(valley.bells.noteOf(bell) + transposition);
                }
            }
        }

        private void insert(int note) {
            if (size >= LIMIT) {
                return;
            }
            int place = size;
            while (place > 0 && notes[place - 1] > note) {
                notes[place] = notes[place - 1];
                place--;
            }
            notes[place] = note;
            size++;
        }

        int pairsOf(int[] intervals) {
            int pairs = 0;
            for (int low = 0; low < size; low++) {
                for (int high = low + 1; high < size; high++) {
                    if (belongs(notes[high] - notes[low], intervals)) {
                        pairs++;
                    }
                }
            }
            return pairs;
        }

        int dissonantPairs() {
            return size * (size - 1) / 2 - pairsOf(CONSONANCES);
        }

        int dissonantPairsByClasses() {
            countClasses();
            int pairs = 0;
            for (int low = 0; low < SEMITONES; low++) {
                for (int high = low + 1; high < SEMITONES; high++) {
                    // An interval and its inversion are both consonant or both dissonant.
                    if (!belongs(high - low, CONSONANCES)) {
                        pairs += classCounts[low] * classCounts[high];
                    }
                }
            }
            return pairs;
        }

        private void countClasses() {
            for (int k = 0; k < SEMITONES; k++) {
                classCounts[k] = 0;
            }
            for (int k = 0; k < size; k++) {
                classCounts[Math.floorMod(notes[k], SEMITONES)]++;
            }
        }
    }

    /** The text buffer, and the commands that were read from it last. */
    private static final class Program {
        private static final int LIMIT = 60;

        private final char[] text = new char[LIMIT];
        private int length = 0;

        private final Command[] commands = new Command[LIMIT];
        private final int[] firsts = new int[LIMIT];
        private final int[] seconds = new int[LIMIT];
        private int count = 0;

        // How far reading has come, and the arguments of the command that is being read.
        private final int[] values = new int[2];
        private int argument = 0;
        private int sign = 1;
        private int at = 0;
        private int furthest = 0;

        boolean isFull() {
            return length >= LIMIT;
        }

        int put(char character) {
            if (!isFull()) {
                text[length] = character;
                length++;
            }
            return length;
        }

        void empty() {
            length = 0;
        }

        /** Answers the error position, or NONE if the text is a program. */
        int read() {
            count = 0;
            at = 0;
            for (int k = 0; k < LIMIT; k++) {
                if (!readCommand()) {
                    return furthest;
                }
                if (at == length) {
                    return NONE;
                }
                if (!isNext(';')) {
                    return at;
                }
                at++;
            }
            return at;
        }

        private boolean readCommand() {
            int start = at;
            furthest = start;
            for (Command command : COMMANDS) {
                at = start;
                if (matches(command.form)) {
                    note(command);
                    return true;
                }
                // The text goes wrong where the form that fits longest ends to fit.
                furthest = Math.max(furthest, at);
            }
            return false;
        }

        private void note(Command command) {
            if (count < LIMIT) {
                commands[count] = command;
                firsts[count] = values[0];
                seconds[count] = values[1];
                count++;
            }
        }

        private boolean matches(String form) {
            argument = NONE;
            for (int k = 0; k < form.length(); k++) {
                if (!matchesSign(form.charAt(k))) {
                    return false;
                }
            }
            return true;
        }

        private boolean matchesSign(char wanted) {
            switch (wanted) {
                case '#':
                    return readDigit();
                case '?':
                    readDigit();
                    return true;
                case 'S':
                    return readArgument('+', 1, 0) || readArgument('-', -1, 0);
                case 'M':
                    return readArgument('M', 1, 0) || readArgument('m', 1, 1);
                case ' ':
                    return readArgument(' ', 1, 0);
                default:
                    return readLetter(wanted);
            }
        }

        private boolean isNext(char wanted) {
            return at < length && text[at] == wanted;
        }

        private boolean readLetter(char wanted) {
            if (!isNext(wanted)) {
                return false;
            }
            at++;
            return true;
        }

        /** A blank, a sign and a mode each begin an argument. */
        private boolean readArgument(char wanted, int signOfNumber, int value) {
            if (!readLetter(wanted)) {
                return false;
            }
            argument++;
            sign = signOfNumber;
            if (argument < values.length) {
                values[argument] = value;
            }
            return true;
        }

        private boolean readDigit() {
            if (at >= length || !isWithin(text[at], '0', '9')) {
                return false;
            }
            if (isWithin(argument, 0, values.length - 1)) {
                values[argument] = 10 * values[argument] + sign * (text[at] - '0');
            }
            at++;
            return true;
        }

        /** Carries out the commands, and answers the index of the one that fails, or NONE. */
        int failureIn(Valley valley) {
            for (int k = 0; k < count; k++) {
                if (valley.carryOut(commands[k], firsts[k], seconds[k]) < 0) {
                    return k;
                }
            }
            return NONE;
        }
    }

    /** The valley before each of the latest changing calls, the call that is going on included. */
    private static final class History {
        private static final int LIMIT = 8;
        // One more, so that a call which fails does not overwrite the oldest.
        private static final int SLOTS = LIMIT + 1;

        private final Valley[] slots = new Valley[SLOTS];
        private int current = 0;
        private int count = 0;

        History() {
            for (int k = 0; k < SLOTS; k++) {
                slots[k] = new Valley();
            }
        }

        void begin(Valley valley) {
            slots[current].copyFrom(valley);
        }

        Valley beginning() {
            return slots[current];
        }

        void keep() {
            current = (current + 1) % SLOTS;
            count = Math.min(count + 1, LIMIT);
        }

        void stepBack() {
            current = (current + SLOTS - 1) % SLOTS;
            count--;
        }

        void forget() {
            count = 0;
        }
    }
}
