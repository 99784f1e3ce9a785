/** Long runs of calls, each answer compared with that of the Model. Always the same runs. */
final class ModelTest {
    private static final int RUNS = 400;
    private static final int CALLS = 512;
    private static final String[] CHANGES = {"addBell", "removeBell", "tune", "moveBell", "graze", "setKey",
        "setTolerance", "addTone", "clearMelody", "setEntry", "addCliff", "removeCliff"};
    private static final String[] QUERIES = {"bellCount", "herdOf", "pitch", "nearestNote", "deviation", "isInKey",
        "isTuned", "centsToKey", "centsToKeyByNotes", "bellAtRank", "meanDeviation", "inKeyShare", "tonic",
        "isMinor", "tolerance", "isInScale", "bestTonic", "melodyLength", "tone", "entry", "canonInterval",
        "cliffCount", "delay", "transposition", "chordSize", "chordNote", "dissonances", "dissonancesByClasses",
        "thirds", "lastBeat", "totalDissonances", "harshestBeat", "isConsistent", "errorPosition",
        "failedCommand", "writeBell", "writeChord", "outputAt"};
    private static final String LETTERS = "bel 0123rmovtungcafyhzkMwid+-;x";

    private static long seed = 20261119;
    private static String waiting = "";
    private static boolean isTyped = false;
    private static int lastBell = 0;

    public static void main(String[] args) {
        for (int run = 0; run < RUNS; run++) {
            // Every third run has few refusals and many bells, so that chords grow full.
            play(run, run % 3 == 0);
        }
        Check.finish("ModelTest");
    }

    private static int below(int bound) {
        seed = seed * 6364136223846793005L + 1442695040888963407L;
        return (int) ((seed >>> 33) % bound);
    }

    private static int between(int low, int high) {
        return low + below(high - low + 1);
    }

    private static void play(int run, boolean isTame) {
        ValleyBells x = new ValleyBells();
        Model m = new Model();
        waiting = "";
        isTyped = false;
        for (int call = 0; call < CALLS; call++) {
            // The model is asked, for the object answers for its 512 calls only.
            lastBell = isTame ? Math.max(0, m.s.bells.size() - 1) : 11;
            String name = pickCall(isTame);
            int a = name.equals("append") ? nextCharacter() : pick(isTame, first(name, isTame));
            int b = pick(isTame, second(name, isTame));
            if (name.equals("tune") || name.equals("addCliff")) {
                b = below(2) == 0 ? b : -b;
            }
            if (name.equals("setKey")) {
                b = below(2);
            }
            String got = real(x, name, a, b);
            String due = model(m, name, a, b);
            Check.due("run " + run + ", call " + call + ": " + name + "(" + a + ", " + b + ")", due, got);
            if (!due.equals(got)) {
                return;
            }
        }
    }

    private static String pickCall(boolean isTame) {
        if (!waiting.isEmpty()) {
            return "append";
        }
        if (isTyped && below(10) > 0) {
            isTyped = false;
            return "run";
        }
        int die = below(100);
        if (die < 44) {
            return QUERIES[below(QUERIES.length)];
        }
        if (die < 86) {
            return pickChange(isTame);
        }
        if (die < 89) {
            waiting = text(isTame);
            isTyped = true;
            return "append";
        }
        return new String[] {"undo", "undo", "undo", "undo", "save", isTame ? "undo" : "restore", "run", "writeBell",
            "writeChord", "outputAt", "outputAt"}[die - 89];
    }

    private static String pickChange(boolean isTame) {
        String change = CHANGES[below(CHANGES.length)];
        boolean isRemoving = change.startsWith("remove") || change.equals("clearMelody");
        if (isRemoving && below(isTame ? 8 : 2) > 0) {
            return below(2) == 0 ? "addBell" : "addTone";
        }
        return change;
    }

    private static int nextCharacter() {
        if (waiting.isEmpty()) {
            return below(65536);
        }
        char next = waiting.charAt(0);
        waiting = waiting.substring(1);
        return next;
    }

    private static int pick(boolean isTame, int[] range) {
        int die = below(isTame ? 200 : 30);
        if (die == 0) {
            return range[0] - 1;
        }
        if (die == 1) {
            return range[1] + 1;
        }
        if (die == 2) {
            return new int[] {Integer.MIN_VALUE, Integer.MAX_VALUE, Integer.MIN_VALUE + 20}[below(3)];
        }
        if (die < 5) {
            return range[die - 3];
        }
        return between(range[0], range[1]);
    }

    private static int[] first(String name, boolean isTame) {
        switch (name) {
            case "addBell": case "graze": case "addTone": case "clearMelody": case "setEntry":
            case "melodyLength": case "tone": case "entry": case "canonInterval":
                return new int[] {0, 3};
            case "setKey": case "isInScale":
                return new int[] {0, 11};
            case "setTolerance":
                return new int[] {0, 50};
            case "addCliff":
                return new int[] {1, 8};
            case "removeCliff": case "delay": case "transposition":
                return new int[] {0, 3};
            case "bestTonic":
                return new int[] {0, 1};
            case "chordSize": case "chordNote": case "dissonances": case "dissonancesByClasses":
            case "thirds": case "writeChord":
                return new int[] {0, isTame ? 12 : 30};
            case "outputAt":
                return new int[] {0, 20};
            default:
                return new int[] {0, lastBell};
        }
    }

    private static int[] second(String name, boolean isTame) {
        switch (name) {
            case "addBell":
                return below(3) == 0 ? new int[] {3600, 3660} : below(3) == 0 ? new int[] {8340, 8400}
                    : new int[] {5900, isTame ? 6100 : 8400};
            case "tune": case "graze":
                return new int[] {isTame ? 1 : 0, below(2) == 0 ? 9 : 99};
            case "setEntry":
                return new int[] {0, isTame ? 3 : 15};
            case "addCliff":
                return new int[] {0, 12};
            case "addTone":
                return new int[] {0, lastBell};
            case "chordNote":
                return new int[] {0, 5};
            default:
                return new int[] {0, 3};
        }
    }

    // ---- texts of programs

    private static String number(int high) {
        int number = below(12) == 0 ? below(100) : below(high + 1);
        return below(4) == 0 && number < 10 ? "0" + number : "" + number;
    }

    private static String digit(int high) {
        return "" + (below(15) == 0 ? below(10) : below(high + 1));
    }

    private static String command() {
        String sign = below(2) == 0 ? "+" : "-";
        switch (below(12)) {
            case 0: return "bell " + digit(3) + " " + (below(9) == 0 ? between(1000, 9999) : between(3600, 8400));
            case 1: return "remove " + number(3);
            case 2: return "tune " + number(5) + sign + number(99);
            case 3: return "move " + number(5) + " " + digit(3);
            case 4: return "key " + number(11) + (below(2) == 0 ? "M" : "m");
            case 5: return "tolerance " + number(50);
            case 6: return "tone " + digit(3) + " " + number(5);
            case 7: return "clear " + digit(3);
            case 8: return "entry " + digit(3) + " " + number(15);
            case 9: return "cliff " + (1 + below(8)) + sign + number(12);
            case 10: return "fell " + digit(2);
            default: return "graze " + digit(3) + " " + number(99);
        }
    }

    private static String text(boolean isTame) {
        StringBuilder text = new StringBuilder(command());
        int more = below(6);
        for (int k = 0; k < more; k++) {
            text.append(';').append(command());
        }
        int wear = below(isTame ? 8 : 3) == 0 ? 1 + below(2) : 0;
        for (int k = 0; k < wear && text.length() > 0; k++) {
            int place = below(text.length());
            char letter = LETTERS.charAt(below(LETTERS.length()));
            switch (below(4)) {
                case 0: text.setCharAt(place, letter); break;
                case 1: text.insert(place, letter); break;
                case 2: text.deleteCharAt(place); break;
                default: text.setLength(place); break;
            }
        }
        text.setLength(Math.min(text.length(), 62));
        return text.length() == 0 ? "k" : text.toString();
    }

    // ---- both sides

    private static String model(Model m, String name, int a, int b) {
        try {
            for (String change : CHANGES) {
                if (change.equals(name)) {
                    return "" + m.change(name, a, b);
                }
            }
            return "" + m.ask(name, a, b);
        } catch (RuntimeException e) {
            return "throws." + e.getClass().getSimpleName();
        }
    }

    private static String real(ValleyBells x, String name, int a, int b) {
        try {
            return "" + call(x, name, a, b);
        } catch (RuntimeException e) {
            return "throws." + e.getClass().getSimpleName();
        }
    }

    private static Object call(ValleyBells x, String name, int a, int b) {
        switch (name) {
            case "addBell": return x.addBell(a, b);
            case "removeBell": return x.removeBell(a);
            case "tune": return x.tune(a, b);
            case "moveBell": return x.moveBell(a, b);
            case "graze": return x.graze(a, b);
            case "setKey": return x.setKey(a, b == 1);
            case "setTolerance": return x.setTolerance(a);
            case "addTone": return x.addTone(a, b);
            case "clearMelody": return x.clearMelody(a);
            case "setEntry": return x.setEntry(a, b);
            case "addCliff": return x.addCliff(a, b);
            case "removeCliff": return x.removeCliff(a);
            case "bellCount": return x.bellCount();
            case "herdOf": return x.herdOf(a);
            case "pitch": return x.pitch(a);
            case "nearestNote": return x.nearestNote(a);
            case "deviation": return x.deviation(a);
            case "isInKey": return x.isInKey(a);
            case "isTuned": return x.isTuned();
            case "centsToKey": return x.centsToKey(a);
            case "centsToKeyByNotes": return x.centsToKeyByNotes(a);
            case "bellAtRank": return x.bellAtRank(a);
            case "meanDeviation": return x.meanDeviation();
            case "inKeyShare": return x.inKeyShare();
            case "tonic": return x.tonic();
            case "isMinor": return x.isMinor();
            case "tolerance": return x.tolerance();
            case "isInScale": return x.isInScale(a);
            case "bestTonic": return x.bestTonic(a == 1);
            default: return callMore(x, name, a, b);
        }
    }

    private static Object callMore(ValleyBells x, String name, int a, int b) {
        switch (name) {
            case "melodyLength": return x.melodyLength(a);
            case "tone": return x.tone(a, b);
            case "entry": return x.entry(a);
            case "canonInterval": return x.canonInterval(a, b);
            case "cliffCount": return x.cliffCount();
            case "delay": return x.delay(a);
            case "transposition": return x.transposition(a);
            case "chordSize": return x.chordSize(a);
            case "chordNote": return x.chordNote(a, b);
            case "dissonances": return x.dissonances(a);
            case "dissonancesByClasses": return x.dissonancesByClasses(a);
            case "thirds": return x.thirds(a);
            case "lastBeat": return x.lastBeat();
            case "totalDissonances": return x.totalDissonances();
            case "harshestBeat": return x.harshestBeat();
            case "isConsistent": return x.isConsistent();
            case "errorPosition": return x.errorPosition();
            case "failedCommand": return x.failedCommand();
            case "writeBell": return x.writeBell(a);
            case "writeChord": return x.writeChord(a);
            case "outputAt": return x.outputAt(a);
            case "append": return x.append((char) a);
            case "run": return x.run();
            case "undo": return x.undo();
            case "save": x.save(); return "";
            case "restore": x.restore(); return "";
            default: throw new AssertionError(name);
        }
    }
}
