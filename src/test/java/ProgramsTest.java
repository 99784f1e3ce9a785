/** Promises 47 to 50. */
final class ProgramsTest {
    public static void main(String[] args) {
        promise47Append();
        promise48EachCommand();
        promise48NumbersAndModes();
        promise48FailingCommands();
        promise48NothingHasAnEffect();
        promise48LongPrograms();
        promise49ErrorPositions();
        promise49KeepsTheLast();
        promise50FailedCommand();
        Check.finish("ProgramsTest");
    }

    private static void promise47Append() {
        ValleyBells x = new ValleyBells();
        char[] any = {'k', (char) 0, (char) 255, (char) 0x20AC, Character.MAX_VALUE, '\n'};
        for (int k = 0; k < 60; k++) {
            Check.due("append", k + 1, x.append(any[k % any.length]));
        }
        Check.badState("append, the 61st", () -> x.append('k'));
        Check.badState("append, the 61st again", () -> x.append('k'));
        Check.badArgument("run", () -> x.run());
        Check.due("append after run", 1, x.append('k'));
    }

    private static void promise48EachCommand() {
        ValleyBells x = new ValleyBells();
        Check.due("run bell", 3, Check.run(x, "bell 0 3600;bell 3 8400;bell 1 6012"));
        Check.due("bellCount", 3, x.bellCount());
        Check.due("herdOf(1)", 3, x.herdOf(1));
        Check.due("pitch(1)", 8400, x.pitch(1));
        Check.due("run tune", 2, Check.run(x, "tune 2-12;tune 0+7"));
        Check.due("pitch(2)", 6000, x.pitch(2));
        Check.due("pitch(0)", 3607, x.pitch(0));
        Check.due("run move", 1, Check.run(x, "move 2 0"));
        Check.due("herdOf(2)", 0, x.herdOf(2));
        Check.due("run key", 1, Check.run(x, "key 11m"));
        Check.due("tonic", 11, x.tonic());
        Check.due("isMinor", true, x.isMinor());
        Check.due("run key", 1, Check.run(x, "key 3M"));
        Check.due("tonic", 3, x.tonic());
        Check.due("isMinor", false, x.isMinor());
        Check.due("run tolerance", 1, Check.run(x, "tolerance 50"));
        Check.due("tolerance", 50, x.tolerance());
        Check.due("run tone", 3, Check.run(x, "tone 3 2;tone 3 1;tone 2 0"));
        Check.due("tone(3, 1)", 1, x.tone(3, 1));
        Check.due("melodyLength(2)", 1, x.melodyLength(2));
        Check.due("run clear", 1, Check.run(x, "clear 2"));
        Check.due("melodyLength(2)", 0, x.melodyLength(2));
        Check.due("run entry", 1, Check.run(x, "entry 1 15"));
        Check.due("entry(1)", 15, x.entry(1));
        Check.due("run cliff", 2, Check.run(x, "cliff 8-12;cliff 1+2"));
        Check.due("delay(0)", 8, x.delay(0));
        Check.due("transposition(0)", -12, x.transposition(0));
        Check.due("transposition(1)", 2, x.transposition(1));
        Check.due("run fell", 1, Check.run(x, "fell 0"));
        Check.due("delay(0)", 1, x.delay(0));
        Check.due("run graze", 1, Check.run(x, "graze 0 99"));
        Check.due("pitch(2)", 5901, x.pitch(2));
        Check.due("pitch(1)", 8400, x.pitch(1));
        Check.due("run remove", 1, Check.run(x, "remove 2"));
        Check.due("bellCount", 2, x.bellCount());
        Check.due("melodyLength(3)", 1, x.melodyLength(3));
    }

    private static void promise48NumbersAndModes() {
        ValleyBells x = new ValleyBells();
        for (int k = 0; k < 12; k++) {
            x.addBell(0, 6000);
        }
        Check.due("run", 2, Check.run(x, "tune 11+05;move 10 2"));
        Check.due("pitch(11)", 6005, x.pitch(11));
        Check.due("herdOf(10)", 2, x.herdOf(10));
        Check.due("run", 3, Check.run(x, "tone 0 11;tone 0 01;tone 0 1"));
        Check.due("tone(0, 0)", 11, x.tone(0, 0));
        Check.due("tone(0, 1)", 1, x.tone(0, 1));
        Check.due("run", 3, Check.run(x, "tune 0-99;tune 1+99;tune 2-0"));
        Check.due("pitch(0)", 5901, x.pitch(0));
        Check.due("pitch(1)", 6099, x.pitch(1));
        Check.due("pitch(2)", 6000, x.pitch(2));
        Check.due("run", 4, Check.run(x, "key 00m;tolerance 0;entry 3 7;remove 11"));
        Check.due("entry(3)", 7, x.entry(3));
        Check.due("melodyLength(0)", 2, x.melodyLength(0));
    }

    private static void promise48FailingCommands() {
        String[] failing = {"bell 4 6000", "bell 0 3599", "bell 0 8401", "bell 0 0000", "bell 9 9999",
            "remove 1", "remove 99", "tune 1+1", "tune 0-1", "move 0 4", "move 1 0", "key 12M", "key 99m",
            "tolerance 51", "tolerance 99", "tone 0 1", "tone 4 0", "clear 4", "clear 9", "entry 0 16",
            "entry 4 0", "cliff 0+1", "cliff 9+1", "cliff 1+13", "cliff 1-13", "fell 1", "fell 9",
            "graze 0 0", "graze 4 1", "graze 0 00"};
        for (String text : failing) {
            ValleyBells x = new ValleyBells();
            x.addBell(0, 3600);
            x.addCliff(1, 0);
            Check.type(x, text);
            Check.refused("run " + text, UnsupportedOperationException.class, () -> x.run());
            Check.due("failedCommand of " + text, 0, x.failedCommand());
            Check.noElement("errorPosition after " + text, () -> x.errorPosition());
            Check.due("append after " + text, 1, x.append('k'));
            Check.due("undo after " + text, 1, x.undo());
        }
    }

    private static void promise48NothingHasAnEffect() {
        ValleyBells x = new ValleyBells();
        x.addBell(2, 6000);
        x.addTone(1, 0);
        Check.type(x, "move 0 3;tune 0+5;entry 1 4;key 2m;remove 0;tune 0+1");
        Check.refused("run", UnsupportedOperationException.class, () -> x.run());
        Check.due("failedCommand", 5, x.failedCommand());
        Check.due("bellCount", 1, x.bellCount());
        Check.due("herdOf(0)", 2, x.herdOf(0));
        Check.due("pitch(0)", 6000, x.pitch(0));
        Check.due("melodyLength(1)", 1, x.melodyLength(1));
        Check.due("entry(1)", 0, x.entry(1));
        Check.due("tonic", 0, x.tonic());
        Check.due("isMinor", false, x.isMinor());
        Check.type(x, "tolerance 3;cliff 1+1;clear 1;fell 1");
        Check.refused("run", UnsupportedOperationException.class, () -> x.run());
        Check.due("tolerance", 10, x.tolerance());
        Check.due("cliffCount", 0, x.cliffCount());
        Check.due("melodyLength(1)", 1, x.melodyLength(1));
        // The text is read whole before any command is carried out.
        Check.type(x, "fell 3;tolerance 3x");
        Check.badArgument("run", () -> x.run());
        Check.due("errorPosition", 18, x.errorPosition());
        Check.due("failedCommand", 3, x.failedCommand());
        Check.due("undo", 1, x.undo());
    }

    private static void promise48LongPrograms() {
        ValleyBells x = new ValleyBells();
        Check.due("run of 8 commands", 8, Check.run(x, "key 0M;key 1M;key 2M;key 3M;key 4M;key 5M;key 6M;key 7m"));
        Check.due("tonic", 7, x.tonic());
        Check.due("undo", 0, x.undo());
        Check.due("tonic", 0, x.tonic());
        String full = "tolerance 11;tolerance 12;tolerance 13;bell 0 6000;bell 0 60";
        Check.due("60 characters", 60, full.length());
        Check.type(x, full);
        Check.badState("append", () -> x.append('0'));
        Check.badArgument("run", () -> x.run());
        Check.due("errorPosition", 60, x.errorPosition());
        full = "tolerance 11;tolerance 12;bell 0 6000;bell 0 6100;tune 00+05";
        Check.due("60 characters", 60, full.length());
        Check.due("run of 60 characters", 5, Check.run(x, full));
        Check.due("pitch(0)", 6005, x.pitch(0));
        Check.due("bellCount", 2, x.bellCount());
    }

    private static void dueError(String text, int position) {
        ValleyBells x = new ValleyBells();
        Check.type(x, text);
        Check.badArgument("run \"" + text + "\"", () -> x.run());
        Check.due("errorPosition of \"" + text + "\"", position, x.errorPosition());
        Check.noElement("failedCommand of \"" + text + "\"", () -> x.failedCommand());
        Check.due("append after \"" + text + "\"", 1, x.append('k'));
        Check.badState("undo after \"" + text + "\"", () -> x.undo());
    }

    private static void promise49ErrorPositions() {
        dueError("", 0);
        // Each proper prefix of these is a proper prefix of a program, but for those that are programs.
        String[] programs = {"bell 1 6000", "remove 0", "tune 10+0", "move 10 2", "key 10M", "key 1m",
            "tolerance 1", "tone 1 0", "clear 0", "entry 3 0", "cliff 1-1", "fell 0", "graze 1 1"};
        for (String text : programs) {
            for (int k = 0; k < text.length(); k++) {
                dueError(text.substring(0, k), k);
                dueError(text.substring(0, k) + "x", k);
                dueError("key 0m;" + text.substring(0, k), 7 + k);
            }
            dueError(text + ";", text.length() + 1);
            dueError(text + ";;", text.length() + 1);
            dueError(text + "x", text.length());
            dueError(text + " ", text.length());
            dueError(" " + text, 0);
            dueError(text.toUpperCase(), 0);
        }
        Object[][] rows = {{";", 0}, {"tx", 1}, {"tox", 2}, {"tolx", 3}, {"tux", 2}, {"cx", 1}, {"clx", 2},
            {"clix", 3}, {"clex", 3}, {"bell 11", 6}, {"bell 1 60000", 11}, {"bell 1  6000", 7}, {"remove 123", 9},
            {"tune 123", 7}, {"tune 1 +2", 6}, {"tune 1+123", 9}, {"tune 1+-2", 7}, {"tune +1", 5},
            {"key 1 M", 5}, {"key M", 4}, {"key 123", 6}, {"key 1Mm", 6}, {"tolerance -1", 10}, {"tone 12 3", 6},
            {"clear 12", 7}, {"entry 1 123", 10}, {"cliff 12+3", 7}, {"cliff 1 3", 7}, {"fell 12", 6},
            {"graze 0 123", 10}, {"move 0 12", 8}, {"move 123 1", 7}, {"remove 0;bexl", 11},
            {"remove 0 ;fell 0", 8}, {"remove 0; fell 0", 9}, {"bell 1 \u0661000", 7}, {"remove \u00b2", 7}};
        for (Object[] row : rows) {
            dueError((String) row[0], (Integer) row[1]);
        }
    }

    private static void promise49KeepsTheLast() {
        ValleyBells x = new ValleyBells();
        Check.noElement("errorPosition", () -> x.errorPosition());
        Check.type(x, "key 1x");
        Check.badArgument("run", () -> x.run());
        Check.due("errorPosition", 5, x.errorPosition());
        Check.run(x, "key 1m");
        Check.due("errorPosition after a good run", 5, x.errorPosition());
        x.undo();
        Check.due("errorPosition after undo", 5, x.errorPosition());
        Check.type(x, "fell 0");
        Check.refused("run", UnsupportedOperationException.class, () -> x.run());
        Check.due("errorPosition after a failed command", 5, x.errorPosition());
        Check.badArgument("run", () -> x.run());
        Check.due("errorPosition", 0, x.errorPosition());
    }

    private static void promise50FailedCommand() {
        ValleyBells x = new ValleyBells();
        Check.noElement("failedCommand", () -> x.failedCommand());
        Check.type(x, "key 1m;key 2m;fell 0;fell 1");
        Check.refused("run", UnsupportedOperationException.class, () -> x.run());
        Check.due("failedCommand", 2, x.failedCommand());
        Check.run(x, "key 1m");
        Check.due("failedCommand after a good run", 2, x.failedCommand());
        Check.badArgument("run", () -> x.run());
        Check.due("failedCommand after a text that is no program", 2, x.failedCommand());
        x.undo();
        x.save();
        x.restore();
        Check.due("failedCommand after undo and restore", 2, x.failedCommand());
        Check.type(x, "fell 0");
        Check.refused("run", UnsupportedOperationException.class, () -> x.run());
        Check.due("failedCommand", 0, x.failedCommand());
    }
}
