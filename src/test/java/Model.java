import java.util.ArrayList;
import java.util.List;
import java.util.NoSuchElementException;
import java.util.TreeMap;
import java.util.regex.Matcher;
import java.util.regex.Pattern;

/**
 * The document once more, in lists and regular expressions: slow, and built in another way than
 * the class, so that a fault is not likely to stand in both.
 */
final class Model {
    static final class Tone {
        final int beat;
        final int note;

        Tone(int beat, int note) {
            this.beat = beat;
            this.note = note;
        }
    }

    static final class State {
        List<int[]> bells = new ArrayList<>();
        List<int[]> cliffs = new ArrayList<>();
        List<List<int[]>> melodies = new ArrayList<>();
        int[] entries = new int[4];
        int tonic = 0;
        boolean minor = false;
        int tolerance = 10;

        State() {
            for (int k = 0; k < 4; k++) {
                melodies.add(new ArrayList<>());
            }
        }

        /** A tone is the bell itself, so a copy has to find its own bells. */
        State copy() {
            State c = new State();
            for (int[] bell : bells) {
                c.bells.add(bell.clone());
            }
            for (int[] cliff : cliffs) {
                c.cliffs.add(cliff.clone());
            }
            for (int herd = 0; herd < 4; herd++) {
                for (int[] bell : melodies.get(herd)) {
                    c.melodies.get(herd).add(c.bells.get(indexOf(bell)));
                }
            }
            c.entries = entries.clone();
            c.tonic = tonic;
            c.minor = minor;
            c.tolerance = tolerance;
            return c;
        }

        int indexOf(int[] bell) {
            for (int k = 0; k < bells.size(); k++) {
                if (bells.get(k) == bell) {
                    return k;
                }
            }
            throw new AssertionError("a tone without a bell");
        }
    }

    State s = new State();
    State saved = null;
    List<State> past = new ArrayList<>();
    String text = "";
    String line = "";
    int error = -1;
    int failed = -1;

    private static void index(boolean holds) {
        if (!holds) {
            throw new IndexOutOfBoundsException();
        }
    }

    private static void argument(boolean holds) {
        if (!holds) {
            throw new IllegalArgumentException();
        }
    }

    private static void state(boolean holds) {
        if (!holds) {
            throw new IllegalStateException();
        }
    }

    private static void element(boolean holds) {
        if (!holds) {
            throw new NoSuchElementException();
        }
    }

    private static boolean in(int low, int number, int high) {
        return low <= number && number <= high;
    }

    private int[] bell(int k) {
        index(in(0, k, s.bells.size() - 1));
        return s.bells.get(k);
    }

    static int note(int pitch) {
        return (int) Math.floor((pitch + 50) / 100.0);
    }

    static boolean scale(int tonic, boolean minor, int note) {
        String steps = minor ? "101101011010" : "101011010101";
        return steps.charAt(((note - tonic) % 12 + 12) % 12) == '1';
    }

    private boolean inKey(int[] bell, int tonic, boolean minor) {
        int note = note(bell[1]);
        return scale(tonic, minor, note) && Math.abs(bell[1] - 100 * note) <= s.tolerance;
    }

    private boolean inKey(int[] bell) {
        return inKey(bell, s.tonic, s.minor);
    }

    private int countIn(int tonic, boolean minor) {
        return (int) s.bells.stream().filter(b -> inKey(b, tonic, minor)).count();
    }

    // ---- changes, without undo

    private int apply(String name, int a, int b) {
        switch (name) {
            case "addBell":
                index(in(0, a, 3));
                argument(in(3600, b, 8400));
                state(s.bells.size() < 12);
                s.bells.add(new int[] {a, b});
                return s.bells.size() - 1;
            case "removeBell": {
                int[] gone = bell(a);
                int before = s.melodies.stream().mapToInt(List::size).sum();
                for (List<int[]> melody : s.melodies) {
                    melody.removeIf(t -> t == gone);
                }
                s.bells.remove(a);
                return before - s.melodies.stream().mapToInt(List::size).sum();
            }
            case "tune": {
                int[] bell = bell(a);
                argument(in(-99, b, 99));
                state(in(3600, bell[1] + b, 8400));
                return bell[1] += b;
            }
            case "moveBell": {
                int[] bell = bell(a);
                index(in(0, b, 3));
                int old = bell[0];
                bell[0] = b;
                return old;
            }
            case "graze": {
                index(in(0, a, 3));
                argument(in(1, b, 99));
                int lost = 0;
                for (int[] bell : s.bells) {
                    boolean was = inKey(bell);
                    for (int day = 0; day < b && bell[0] == a && bell[1] > 3600; day++) {
                        bell[1]--;
                    }
                    lost += was && !inKey(bell) ? 1 : 0;
                }
                return lost;
            }
            case "setKey":
                argument(in(0, a, 11));
                s.tonic = a;
                s.minor = b == 1;
                return countIn(a, b == 1);
            case "setTolerance": {
                argument(in(0, a, 50));
                int old = s.tolerance;
                s.tolerance = a;
                return old;
            }
            default:
                return applyMelody(name, a, b);
        }
    }

    private int applyMelody(String name, int a, int b) {
        switch (name) {
            case "addTone": {
                index(in(0, a, 3));
                int[] bell = bell(b);
                state(s.melodies.get(a).size() < 8);
                s.melodies.get(a).add(bell);
                return s.melodies.get(a).size();
            }
            case "clearMelody": {
                index(in(0, a, 3));
                int old = s.melodies.get(a).size();
                s.melodies.get(a).clear();
                return old;
            }
            case "setEntry": {
                index(in(0, a, 3));
                argument(in(0, b, 15));
                int old = s.entries[a];
                s.entries[a] = b;
                return old;
            }
            case "addCliff":
                argument(in(1, a, 8) && in(-12, b, 12));
                state(s.cliffs.size() < 4);
                s.cliffs.add(new int[] {a, b});
                return s.cliffs.size() - 1;
            case "removeCliff":
                index(in(0, a, s.cliffs.size() - 1));
                s.cliffs.remove(a);
                return s.cliffs.size();
            default:
                throw new AssertionError(name);
        }
    }

    private void remember(State before) {
        past.add(before);
        if (past.size() > 8) {
            past.remove(0);
        }
    }

    int change(String name, int a, int b) {
        State before = s.copy();
        int answer = apply(name, a, b);
        remember(before);
        return answer;
    }

    // ---- queries

    private List<Tone> sounds() {
        List<Tone> all = new ArrayList<>();
        for (int herd = 0; herd < 4; herd++) {
            int beat = s.entries[herd];
            for (int[] bell : s.melodies.get(herd)) {
                all.add(new Tone(beat, note(bell[1])));
                for (int[] cliff : s.cliffs) {
                    all.add(new Tone(beat + cliff[0], note(bell[1]) + cliff[1]));
                }
                beat++;
            }
        }
        return all;
    }

    private List<Integer> chord(int beat) {
        List<Integer> notes = new ArrayList<>();
        for (Tone tone : sounds()) {
            if (tone.beat == beat) {
                notes.add(tone.note);
            }
        }
        notes.sort(null);
        return notes;
    }

    private int pairs(int beat, String intervals) {
        List<Integer> notes = chord(beat);
        int pairs = 0;
        for (int i = 0; i < notes.size(); i++) {
            for (int j = 0; j < i; j++) {
                int interval = Math.abs(notes.get(i) - notes.get(j)) % 12;
                pairs += intervals.charAt(interval) == '1' ? 1 : 0;
            }
        }
        return pairs;
    }

    private int dissonances(int beat) {
        return pairs(beat, "011000100011");
    }

    private TreeMap<Integer, Integer> dissonancesOfBeats() {
        TreeMap<Integer, Integer> all = new TreeMap<>();
        for (Tone tone : sounds()) {
            all.put(tone.beat, dissonances(tone.beat));
        }
        element(!all.isEmpty());
        return all;
    }

    private int harshest() {
        TreeMap<Integer, Integer> all = dissonancesOfBeats();
        int best = all.firstKey();
        for (int beat : all.keySet()) {
            best = all.get(beat) > all.get(best) ? beat : best;
        }
        return best;
    }

    private int cents(int[] bell) {
        int best = 1_000_000;
        for (int note = -30; note < 200; note++) {
            int cents = 100 * note - bell[1];
            boolean better = Math.abs(cents) < Math.abs(best) || cents == -best && cents > 0;
            if (scale(s.tonic, s.minor, note) && better) {
                best = cents;
            }
        }
        return best;
    }

    private int ranked(int rank) {
        List<Integer> order = new ArrayList<>();
        for (int k = 0; k < s.bells.size(); k++) {
            order.add(k);
        }
        order.sort((p, q) -> s.bells.get(p)[1] != s.bells.get(q)[1]
            ? s.bells.get(p)[1] - s.bells.get(q)[1] : p - q);
        element(in(0, rank, order.size() - 1));
        return order.get(rank);
    }

    private int best(boolean minor) {
        int best = 11;
        for (int tonic = 11; tonic >= 0; tonic--) {
            best = countIn(tonic, minor) >= countIn(best, minor) ? tonic : best;
        }
        return best;
    }

    private int canon(int a, int b) {
        index(in(0, a, 3) && in(0, b, 3));
        List<int[]> first = s.melodies.get(a);
        List<int[]> other = s.melodies.get(b);
        element(!first.isEmpty() && first.size() == other.size());
        int interval = note(other.get(0)[1]) - note(first.get(0)[1]);
        for (int k = 0; k < first.size(); k++) {
            element(note(other.get(k)[1]) - note(first.get(k)[1]) == interval);
        }
        return interval;
    }

    private double mean() {
        int sum = s.bells.stream().mapToInt(b -> Math.abs(b[1] - 100 * note(b[1]))).sum();
        if (s.bells.isEmpty()) {
            throw new ArithmeticException();
        }
        return (double) sum / s.bells.size();
    }

    private float share() {
        if (s.bells.isEmpty()) {
            throw new ArithmeticException();
        }
        return (float) countIn(s.tonic, s.minor) / s.bells.size();
    }

    private boolean inScale(int pitchClass) {
        argument(in(0, pitchClass, 11));
        return scale(s.tonic, s.minor, pitchClass);
    }

    private int writeBell(int k) {
        int[] bell = bell(k);
        int note = note(bell[1]);
        int cents = bell[1] - 100 * note;
        String[] names = "C C# D D# E F F# G G# A A# B".split(" ");
        line = k + "h" + bell[0] + ":" + names[note % 12] + (note / 12 - 1)
            + (cents == 0 ? "" : String.format("%+d", cents)) + (inKey(bell) ? "" : "!");
        return line.length();
    }

    private int writeChord(int beat) {
        line = chord(beat).toString().replaceAll("[\\[\\],]", "");
        return line.length();
    }

    Object ask(String name, int a, int b) {
        switch (name) {
            case "bellCount":
                return s.bells.size();
            case "herdOf":
                return bell(a)[0];
            case "pitch":
                return bell(a)[1];
            case "nearestNote":
                return note(bell(a)[1]);
            case "deviation":
                return bell(a)[1] - 100 * note(bell(a)[1]);
            case "isInKey":
                return inKey(bell(a));
            case "isTuned":
                return s.bells.stream().allMatch(this::inKey);
            case "centsToKey":
            case "centsToKeyByNotes":
                return cents(bell(a));
            case "bellAtRank":
                return ranked(a);
            case "meanDeviation":
                return mean();
            case "inKeyShare":
                return share();
            case "tonic":
                return s.tonic;
            case "isMinor":
                return s.minor;
            case "tolerance":
                return s.tolerance;
            case "isInScale":
                return inScale(a);
            case "bestTonic":
                return best(a == 1);
            default:
                return askMelody(name, a, b);
        }
    }

    private Object askMelody(String name, int a, int b) {
        switch (name) {
            case "melodyLength":
                index(in(0, a, 3));
                return s.melodies.get(a).size();
            case "tone":
                index(in(0, a, 3));
                element(in(0, b, s.melodies.get(a).size() - 1));
                return s.indexOf(s.melodies.get(a).get(b));
            case "entry":
                index(in(0, a, 3));
                return s.entries[a];
            case "canonInterval":
                return canon(a, b);
            case "cliffCount":
                return s.cliffs.size();
            case "delay":
            case "transposition":
                index(in(0, a, s.cliffs.size() - 1));
                return s.cliffs.get(a)[name.equals("delay") ? 0 : 1];
            case "chordSize":
                return chord(a).size();
            case "chordNote":
                element(in(0, b, chord(a).size() - 1));
                return chord(a).get(b);
            case "dissonances":
            case "dissonancesByClasses":
                return dissonances(a);
            case "thirds":
                return pairs(a, "000110000000");
            case "lastBeat":
                return dissonancesOfBeats().lastKey();
            case "totalDissonances":
                return sounds().isEmpty() ? 0L
                    : (long) dissonancesOfBeats().values().stream().mapToInt(n -> n).sum();
            case "harshestBeat":
                return harshest();
            case "isConsistent":
                return true;
            default:
                return askRest(name, a);
        }
    }

    private Object askRest(String name, int a) {
        switch (name) {
            case "errorPosition":
                element(error >= 0);
                return error;
            case "failedCommand":
                element(failed >= 0);
                return failed;
            case "writeBell":
                return writeBell(a);
            case "writeChord":
                return writeChord(a);
            case "outputAt":
                index(in(0, a, line.length() - 1));
                return line.charAt(a);
            case "append":
                state(text.length() < 60);
                text += (char) a;
                return text.length();
            case "run":
                return run();
            case "undo":
                state(!past.isEmpty());
                s = past.remove(past.size() - 1);
                return past.size();
            case "save":
                saved = s.copy();
                return "";
            case "restore":
                state(saved != null);
                s = saved.copy();
                past.clear();
                return "";
            default:
                throw new AssertionError(name);
        }
    }

    // ---- programs

    private static final Pattern COMMAND = Pattern.compile("(bell) ([0-9]) ([0-9]{4})|(remove) ([0-9][0-9]?)"
        + "|(tune) ([0-9][0-9]?)([+-][0-9][0-9]?)|(move) ([0-9][0-9]?) ([0-9])|(key) ([0-9][0-9]?)([Mm])"
        + "|(tolerance) ([0-9][0-9]?)|(tone) ([0-9]) ([0-9][0-9]?)|(clear) ([0-9])|(entry) ([0-9]) ([0-9][0-9]?)"
        + "|(cliff) ([0-9])([+-][0-9][0-9]?)|(fell) ([0-9])|(graze) ([0-9]) ([0-9][0-9]?)");
    private static final Pattern PROGRAM = Pattern.compile("(?:" + COMMAND + ")(?:;(?:" + COMMAND + "))*");
    private static final String[][] METHODS = {{"bell", "addBell"}, {"remove", "removeBell"}, {"tune", "tune"},
        {"move", "moveBell"}, {"key", "setKey"}, {"tolerance", "setTolerance"}, {"tone", "addTone"},
        {"clear", "clearMelody"}, {"entry", "setEntry"}, {"cliff", "addCliff"}, {"fell", "removeCliff"},
        {"graze", "graze"}};

    private static boolean begins(String prefix) {
        Matcher m = PROGRAM.matcher(prefix);
        return m.matches() || m.hitEnd();
    }

    private static int errorIn(String text) {
        int good = 0;
        while (good < text.length() && begins(text.substring(0, good + 1))) {
            good++;
        }
        return good;
    }

    private int run() {
        String program = text;
        text = "";
        if (!PROGRAM.matcher(program).matches()) {
            error = errorIn(program);
            throw new IllegalArgumentException();
        }
        State before = s.copy();
        String[] commands = program.split(";");
        for (int k = 0; k < commands.length; k++) {
            try {
                carryOut(commands[k]);
            } catch (RuntimeException e) {
                s = before;
                failed = k;
                throw new UnsupportedOperationException();
            }
        }
        remember(before);
        return commands.length;
    }

    private void carryOut(String command) {
        Matcher m = COMMAND.matcher(command);
        if (!m.matches()) {
            throw new AssertionError(command);
        }
        List<String> words = new ArrayList<>();
        for (int k = 1; k <= m.groupCount(); k++) {
            if (m.group(k) != null) {
                words.add(m.group(k));
            }
        }
        for (String[] row : METHODS) {
            if (row[0].equals(words.get(0))) {
                apply(row[1], number(words.get(1)), words.size() < 3 ? 0 : number(words.get(2)));
            }
        }
    }

    private static int number(String word) {
        return word.equals("m") ? 1 : word.equals("M") ? 0 : Integer.parseInt(word);
    }
}
