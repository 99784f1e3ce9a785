import java.util.function.Supplier;

/** The boundary cases of promises 47 to 50, a test for each sentence that names one. */
final class ProgramBoundsTest {
    /** A command of each kind with the most characters it can have, and with as few as it can have. */
    private static final String[] LONGEST = {"bell 1 6000", "remove 01", "tune 01+09", "move 01 2", "key 01M",
        "key 11m", "tolerance 09", "tone 3 01", "clear 3", "entry 3 09", "cliff 8-09", "fell 0", "graze 3 09"};
    private static final String[] SHORTEST = {"bell 1 6000", "remove 1", "tune 1-9", "move 1 2", "key 1M", "key 1m",
        "tolerance 9", "tone 3 1", "clear 3", "entry 3 9", "cliff 8+9", "fell 0", "graze 3 9"};

    public static void main(String[] args) {
        promise47SixtyCharacters();
        promise47AnyCharacter();
        promise47AfterRun();
        promise48BufferIsEmptyInEveryCase();
        promise48NumberOfCommands();
        promise48SixtyCharacters();
        promise48EachForm();
        promise48LimitsOfBells();
        promise48LimitsOfKeys();
        promise48LimitsOfMelodies();
        promise48LimitsOfCliffs();
        promise48EmptyValley();
        promise48FullValley();
        promise48BecomesFullAndEmptyOnTheWay();
        promise48NoneHasAnEffect();
        promise48FirstListedException();
        promise49EmptyText();
        promise49ProperPrefixes();
        promise49FirstWrongCharacter();
        promise49BesideTheDigits();
        promise49NumbersOfDigits();
        promise49BetweenCommands();
        promise49EachCharacterAtEachPlace();
        promise49LastCharacterOfSixty();
        promise49NoneStored();
        promise49StoredLast();
        promise50NoneStored();
        promise50FirstAndLastCommand();
        promise50StoredLast();
        Check.finish("ProgramBoundsTest");
    }

    private static String times(char character, int count) {
        StringBuilder text = new StringBuilder();
        for (int k = 0; k < count; k++) {
            text.append(character);
        }
        return text.toString();
    }

    private static void dueError(String text, int position) {
        ValleyBells x = new ValleyBells();
        Check.type(x, text);
        Check.badArgument("run of \"" + text + "\"", () -> x.run());
        Check.due("errorPosition of \"" + text + "\"", position, x.errorPosition());
        Check.noElement("failedCommand of \"" + text + "\"", () -> x.failedCommand());
        Check.due("append after \"" + text + "\"", 1, x.append('k'));
    }

    // ---- append

    /** "if the buffer contains 60 characters" */
    private static void promise47SixtyCharacters() {
        ValleyBells x = new ValleyBells();
        for (int k = 1; k <= 60; k++) {
            Check.due("append, character " + k, k, x.append(' '));
        }
        Check.badState("append, the 61st", () -> x.append(' '));
        Check.badState("append, the 61st again", () -> x.append(';'));
        Refusal.badStateIn(Valleys::full, "append('m'), full", y -> y.append('m'));
        Refusal.badStateIn(Valleys::full, "append(0), full", y -> y.append((char) 0));
    }

    /** "any character" */
    private static void promise47AnyCharacter() {
        char[] any = {0, 1, '\n', '\r', '\t', ' ', '"', 127, 128, 255, 256, 0x0660, 0xD800, 0xDFFF, 0xFF10, 0xFFFF};
        ValleyBells x = new ValleyBells();
        for (int k = 0; k < any.length; k++) {
            Check.due("append of " + (int) any[k], k + 1, x.append(any[k]));
            dueError("fell " + any[k], 5);
            dueError("key 1" + any[k], 5);
            dueError("" + any[k], 0);
        }
    }

    private static void promise47AfterRun() {
        ValleyBells x = Valleys.full();
        Check.due("run of 60 characters", 6, x.run());
        for (int k = 1; k <= 60; k++) {
            Check.due("append after run, character " + k, k, x.append('x'));
        }
        Check.badState("append after run, the 61st", () -> x.append('x'));
    }

    // ---- run

    /** "The buffer is empty afterwards in every case." */
    private static void promise48BufferIsEmptyInEveryCase() {
        ValleyBells x = new ValleyBells();
        Check.due("run", 1, Check.run(x, "key 11m"));
        Check.badArgument("run again, of nothing", () -> x.run());
        Check.type(x, "key 1");
        Check.badArgument("run, no program", () -> x.run());
        Check.due("append after a text that is no program", 1, x.append('f'));
        Check.type(x, "ell 0");
        Check.refused("run, a command fails", UnsupportedOperationException.class, () -> x.run());
        Check.due("append after a command that failed", 1, x.append('k'));
        Check.type(x, "ey 2M");
        Check.due("run", 1, x.run());
        Check.due("tonic", 2, x.tonic());
        Check.due("append after a program", 1, x.append('k'));
    }

    /** "Returns the number of commands.": from 1 to 8, since a command has 6 characters at least */
    private static void promise48NumberOfCommands() {
        StringBuilder text = new StringBuilder();
        for (int count = 1; count <= 8; count++) {
            text.append(count == 1 ? "" : ";").append("key ").append(count).append('M');
            ValleyBells x = new ValleyBells();
            Check.due("run of " + count + " commands", count, Check.run(x, text.toString()));
            Check.due("tonic, the last command", count, x.tonic());
            Check.due("undo: one call", 0, x.undo());
            Check.due("tonic after undo", 0, x.tonic());
        }
    }

    private static void promise48SixtyCharacters() {
        Check.due("the length", 60, Valleys.FULL_TEXT.length());
        ValleyBells x = Valleys.full();
        Check.due("run of 60 characters", 6, x.run());
        Check.due("tolerance, the first command", 11, x.tolerance());
        Check.due("pitch(1), the last command", 8002, x.pitch(1));
        ValleyBells y = new ValleyBells();
        String text = "fell 0;key 1M;key 2M;key 3M;key 4M;key 5M;key 6M;tolerance 0";
        Check.due("the length", 60, text.length());
        y.addCliff(1, 0);
        Check.due("run of 60 characters", 8, Check.run(y, text));
        Check.due("tolerance, the last command", 0, y.tolerance());
    }

    private static ValleyBells ready() {
        ValleyBells x = new ValleyBells();
        x.addBell(0, 6000);
        x.addBell(1, 7000);
        x.addCliff(4, 4);
        return x;
    }

    /** Each command, with one digit and with two where it has a number. */
    private static void promise48EachForm() {
        for (int k = 0; k < LONGEST.length; k++) {
            ValleyBells x = ready();
            ValleyBells y = ready();
            Check.due("run of " + LONGEST[k], 1, Check.run(x, LONGEST[k]));
            Check.due("run of " + SHORTEST[k], 1, Check.run(y, SHORTEST[k]));
            Check.due("undo of " + LONGEST[k], 3, x.undo());
            Check.due("state after undo", Valleys.state(ready()), Valleys.state(x));
        }
        ValleyBells one = ready();
        ValleyBells two = ready();
        Check.run(one, "tone 3 1;move 1 2;tune 1-9;entry 3 9");
        Check.run(two, "tone 3 01;move 01 2;tune 01-09;entry 3 09");
        Check.due("state, one digit and two", Valleys.state(one), Valleys.state(two));
        Check.due("state", "0false10 b0:6000 b2:6991 m0 m0 m0 m9,1 c4:4", Valleys.state(two));
    }

    // ---- commands at the limits of their methods

    private static void duePass(Supplier<ValleyBells> start, String command, String state) {
        ValleyBells x = start.get();
        Check.due("run of " + command, 1, Check.run(x, command));
        Check.due("state after " + command, state, Valleys.state(x));
    }

    private static void dueFail(Supplier<ValleyBells> start, String... commands) {
        for (String command : commands) {
            Refusal.failing(start, command, 0);
        }
    }

    private static ValleyBells atBothEnds() {
        return Valleys.withPitches(3600, 8400, 3699, 8301);
    }

    private static void promise48LimitsOfBells() {
        String rest = " m0 m0 m0 m0";
        duePass(Valleys::empty, "bell 0 3600", "0false10 b0:3600" + rest);
        duePass(Valleys::empty, "bell 3 8400", "0false10 b3:8400" + rest);
        dueFail(Valleys::empty, "bell 4 3600", "bell 9 8400", "bell 0 3599", "bell 0 8401", "bell 0 0000",
            "bell 3 9999");
        String bells = "0false10 b0:3600 b0:8400 b0:3699 b0:";
        duePass(ProgramBoundsTest::atBothEnds, "tune 3+99", bells + "8400" + rest);
        duePass(ProgramBoundsTest::atBothEnds, "tune 03-0", bells + "8301" + rest);
        duePass(ProgramBoundsTest::atBothEnds, "tune 2-99", "0false10 b0:3600 b0:8400 b0:3600 b0:8301" + rest);
        dueFail(ProgramBoundsTest::atBothEnds, "tune 0-1", "tune 1+1", "tune 0-99", "tune 1+99", "tune 4+1",
            "tune 99-1");
        duePass(ProgramBoundsTest::atBothEnds, "move 3 3", "0false10 b0:3600 b0:8400 b0:3699 b3:8301" + rest);
        dueFail(ProgramBoundsTest::atBothEnds, "move 3 4", "move 4 3", "move 99 0", "move 0 9");
        duePass(ProgramBoundsTest::atBothEnds, "graze 0 99", "0false10 b0:3600 b0:8301 b0:3600 b0:8202" + rest);
        duePass(ProgramBoundsTest::atBothEnds, "graze 0 1", "0false10 b0:3600 b0:8399 b0:3698 b0:8300" + rest);
        dueFail(ProgramBoundsTest::atBothEnds, "graze 0 0", "graze 0 00", "graze 4 1", "graze 9 0");
        duePass(ProgramBoundsTest::atBothEnds, "remove 3", "0false10 b0:3600 b0:8400 b0:3699" + rest);
        dueFail(ProgramBoundsTest::atBothEnds, "remove 4", "remove 04", "remove 99");
    }

    private static void promise48LimitsOfKeys() {
        String rest = " m0 m0 m0 m0";
        duePass(Valleys::empty, "key 0m", "0true10" + rest);
        duePass(Valleys::empty, "key 11M", "11false10" + rest);
        duePass(Valleys::empty, "key 00M", "0false10" + rest);
        dueFail(Valleys::empty, "key 12M", "key 12m", "key 99m");
        duePass(Valleys::empty, "tolerance 0", "0false0" + rest);
        duePass(Valleys::empty, "tolerance 50", "0false50" + rest);
        dueFail(Valleys::empty, "tolerance 51", "tolerance 99");
    }

    private static void promise48LimitsOfMelodies() {
        String bells = "0false10 b0:3600 b0:8400 b0:3699 b0:8301";
        duePass(ProgramBoundsTest::atBothEnds, "tone 0 0", bells + " m0,0 m0 m0 m0");
        duePass(ProgramBoundsTest::atBothEnds, "tone 3 03", bells + " m0 m0 m0 m0,3");
        dueFail(ProgramBoundsTest::atBothEnds, "tone 0 4", "tone 4 0", "tone 3 99", "tone 9 9");
        duePass(ProgramBoundsTest::atBothEnds, "clear 0", bells + " m0 m0 m0 m0");
        duePass(ProgramBoundsTest::atBothEnds, "clear 3", bells + " m0 m0 m0 m0");
        dueFail(ProgramBoundsTest::atBothEnds, "clear 4", "clear 9");
        duePass(ProgramBoundsTest::atBothEnds, "entry 0 15", bells + " m15 m0 m0 m0");
        duePass(ProgramBoundsTest::atBothEnds, "entry 3 0", bells + " m0 m0 m0 m0");
        dueFail(ProgramBoundsTest::atBothEnds, "entry 0 16", "entry 4 0", "entry 3 99", "entry 9 16");
    }

    private static void promise48LimitsOfCliffs() {
        String rest = "0false10 m0 m0 m0 m0";
        duePass(Valleys::empty, "cliff 1-12", rest + " c1:-12");
        duePass(Valleys::empty, "cliff 8+12", rest + " c8:12");
        duePass(Valleys::empty, "cliff 1-0", rest + " c1:0");
        duePass(Valleys::empty, "cliff 1+00", rest + " c1:0");
        dueFail(Valleys::empty, "cliff 0+1", "cliff 9+1", "cliff 1-13", "cliff 8+13", "cliff 8-99");
    }

    private static void promise48EmptyValley() {
        dueFail(Valleys::empty, "remove 0", "tune 0+0", "move 0 0", "tone 0 0", "fell 0", "fell 9");
    }

    private static void promise48FullValley() {
        dueFail(Valleys::fullWithoutText, "bell 0 6000", "tone 0 0", "tone 3 11", "cliff 1+0", "fell 4", "remove 12",
            "tune 12+1", "move 12 0", "tune 0+1");
        ValleyBells x = Valleys.fullWithoutText();
        Check.due("run at the last indexes", 4, Check.run(x, "tune 11+1;move 11 0;fell 3;remove 11"));
        Check.due("bellCount", 11, x.bellCount());
        Check.due("cliffCount", 3, x.cliffCount());
    }

    /** Each command finds what the commands before it left. */
    private static void promise48BecomesFullAndEmptyOnTheWay() {
        ValleyBells x = Valleys.fullWithoutText();
        Check.due("run", 6, Check.run(x, "remove 0;bell 3 8400;fell 0;cliff 8+12;clear 2;tone 2 11"));
        Check.due("pitch(11)", 8400, x.pitch(11));
        Check.due("delay(3)", 8, x.delay(3));
        Check.due("tone(2, 0)", 11, x.tone(2, 0));
        Refusal.failing(Valleys::fullWithoutText, "remove 0;bell 0 6000;bell 0 6000", 2);
        Refusal.failing(Valleys::fullWithoutText, "fell 0;cliff 1+1;cliff 1+1", 2);
        Refusal.failing(Valleys::empty, "bell 0 6000;remove 0;remove 0", 2);
        Refusal.failing(Valleys::empty, "bell 0 8400;tune 0-1;tune 0+2", 2);
        ValleyBells y = new ValleyBells();
        Check.due("run", 4, Check.run(y, "bell 0 6000;tone 0 0;remove 0;bell 1 7000"));
        Check.due("state", "0false10 b1:7000 m0 m0 m0 m0", Valleys.state(y));
    }

    /** "If one of them fails, none of them has an effect.": each command before one that fails */
    private static void promise48NoneHasAnEffect() {
        String[] effects = {"bell 1 6000", "remove 0", "tune 1-9", "move 1 2", "key 3m", "tolerance 9", "tone 2 1",
            "clear 3", "entry 3 9", "cliff 8+9", "fell 0", "graze 3 9"};
        for (String command : effects) {
            Refusal.failing(Valleys::busyWithoutText, command + ";fell 9", 1);
            Refusal.failing(Valleys::busyWithoutText, command + ";" + command + ";clear 4;" + command, 2);
        }
        for (String command : new String[] {"remove 0", "tune 1-9", "move 1 2", "key 3m", "clear 3", "fell 0"}) {
            Refusal.failing(Valleys::fullWithoutText, command + ";fell 9", 1);
        }
    }

    /** A text that is not a program has no commands that could fail. */
    private static void promise48FirstListedException() {
        Refusal.noProgram("fell 9;fell 9;", 14);
        Refusal.noProgram("fell 9;fell 99", 13);
        Refusal.noProgram("clear 4x", 7);
    }

    // ---- errorPosition

    private static void promise49EmptyText() {
        dueError("", 0);
        Refusal.noProgram("", 0);
    }

    /** "or the length of the text if the text is a proper prefix of a program" */
    private static void promise49ProperPrefixes() {
        for (String command : SHORTEST) {
            for (int length = 0; length < command.length(); length++) {
                dueError(command.substring(0, length), length);
                dueError("fell 0;" + command.substring(0, length), 7 + length);
            }
            dueError(command + ";", command.length() + 1);
        }
        Refusal.noProgram("bell 1 600", 10);
        Refusal.noProgram("key 1M;", 7);
    }

    /** "the index of the first character that cannot continue any program" */
    private static void promise49FirstWrongCharacter() {
        for (String command : LONGEST) {
            for (int place = 0; place < command.length(); place++) {
                for (char wrong : new char[] {'x', 'B', '/', ':', '*', ',', '.', 0, 0x0660}) {
                    String text = command.substring(0, place) + wrong + command.substring(place + 1);
                    dueError(text, place);
                }
            }
            dueError(command + "x", command.length());
            dueError(command + "0", command.length());
            dueError(command + " ", command.length());
            dueError(command + "+", command.length());
        }
        Refusal.noProgram("key 1x;key 1M", 5);
        Refusal.noProgram("xell 0", 0);
    }

    /** '/' and ':' stand beside the digits in order, and a digit of another script is none. */
    private static void promise49BesideTheDigits() {
        for (char digit = '0'; digit <= '9'; digit++) {
            ValleyBells x = new ValleyBells();
            Check.type(x, "fell " + digit);
            Check.refused("run of fell " + digit, UnsupportedOperationException.class, () -> x.run());
            dueError("tune " + digit + digit + "+" + digit + digit + "-", 10);
        }
        for (char wrong : new char[] {'/', ':', 0x0661, 0xFF11, 0x00B2}) {
            dueError("bell " + wrong, 5);
            dueError("bell 1 600" + wrong, 10);
            dueError("remove 1" + wrong, 8);
            dueError("tune 1+1" + wrong, 8);
        }
    }

    /** "number = digit [ digit ]", "pitch = digit digit digit digit", and where there is one digit only */
    private static void promise49NumbersOfDigits() {
        Object[][] rows = {{"remove 000", 9}, {"tune 000+1", 7}, {"tune 0+000", 9}, {"move 000 1", 7},
            {"move 0 00", 8}, {"key 000M", 6}, {"tolerance 000", 12}, {"tone 00 1", 6}, {"tone 0 000", 9},
            {"clear 00", 7}, {"entry 00 1", 7}, {"entry 0 000", 10}, {"cliff 00+1", 7}, {"cliff 0+000", 10},
            {"fell 00", 6}, {"graze 00 1", 7}, {"graze 0 000", 10}, {"bell 00 6000", 6}, {"bell 0 60000", 11},
            {"bell 0 600", 10}, {"bell 0 600;", 10}, {"key M", 4}, {"tune +1", 5}, {"tune 1+", 7}, {"cliff +1", 6},
            {"cliff 1", 7}, {"cliff 1 1", 7}, {"tune 1 1", 6}, {"move  1", 5}, {"key 1", 5}, {"key 11", 6}};
        for (Object[] row : rows) {
            dueError((String) row[0], (Integer) row[1]);
        }
    }

    /** "{ ";" command }" */
    private static void promise49BetweenCommands() {
        Object[][] rows = {{";", 0}, {";fell 0", 0}, {"fell 0;;fell 0", 7}, {"fell 0 ;fell 0", 6},
            {"fell 0; fell 0", 7}, {"fell 0,fell 0", 6}, {"fell 0fell 0", 6}, {"fell 0;", 7}, {" fell 0", 0},
            {"fell 0\n", 6}, {"fell 0;Fell 0", 7}, {"key 1M;key 1M;key 1m;key 1n", 26}};
        for (Object[] row : rows) {
            dueError((String) row[0], (Integer) row[1]);
        }
    }

    /** Each command with one character put in, replaced or left out: the Model's grammar tells what is due. */
    private static void promise49EachCharacterAtEachPlace() {
        for (String command : LONGEST) {
            for (int place = 0; place <= command.length(); place++) {
                String before = command.substring(0, place);
                String behind = command.substring(Math.min(place + 1, command.length()));
                dueAsModel(before + behind);
                for (char character = ' '; character <= '~'; character++) {
                    dueAsModel(before + character + command.substring(place));
                    dueAsModel(before + character + behind);
                }
            }
        }
    }

    private static void dueAsModel(String text) {
        ValleyBells x = new ValleyBells();
        Model m = new Model();
        Check.type(x, text);
        for (int k = 0; k < text.length(); k++) {
            m.ask("append", text.charAt(k), 0);
        }
        String name = " of \"" + text + "\"";
        Check.due("run" + name, Valleys.answer(() -> m.ask("run", 0, 0)), Valleys.answer(() -> x.run()));
        Check.due("errorPosition" + name, Valleys.answer(() -> m.ask("errorPosition", 0, 0)), Valleys.errorPosition(x));
        Check.due("failedCommand" + name, Valleys.answer(() -> m.ask("failedCommand", 0, 0)), Valleys.failedCommand(x));
    }

    private static void promise49LastCharacterOfSixty() {
        String start = Valleys.FULL_TEXT.substring(0, 59);
        dueError(start + "x", 59);
        dueError(start + ";", 59);
        dueError(times('k', 60), 1);
        dueError(times(';', 60), 0);
        dueError("tolerance 11;tolerance 12;tolerance 13;bell 0 6000;bell 0 60", 60);
        dueError("fell 0;key 1M;key 2M;key 3M;key 4M;key 5M;key 6M;key 7M;key ", 60);
        dueError("fell 00;key 1M;key 2M;key 3M;key 4M;key 5M;key 6M;key 7M;key", 6);
        dueError("fell 0;key 1M;key 2M;key 3M;key 4M;key 5M;key 6M;key 12M;ke;", 59);
    }

    /** "if none was stored" */
    private static void promise49NoneStored() {
        Refusal.noElementIn(Valleys::empty, "errorPosition, none stored", x -> x.errorPosition());
        ValleyBells x = new ValleyBells();
        Check.run(x, "key 1M");
        Check.noElement("errorPosition after a program", () -> x.errorPosition());
        Check.type(x, "fell 0");
        Check.refused("run", UnsupportedOperationException.class, () -> x.run());
        Check.noElement("errorPosition after a failed command", () -> x.errorPosition());
        x.save();
        x.restore();
        Check.noElement("errorPosition after restore", () -> x.errorPosition());
    }

    /** "the error position that was stored last"; undo, save and restore do not concern it */
    private static void promise49StoredLast() {
        ValleyBells x = Valleys.busyWithoutText();
        Check.due("errorPosition", 4, x.errorPosition());
        x.save();
        Check.badArgument("run of nothing", () -> x.run());
        Check.due("errorPosition, now 0", 0, x.errorPosition());
        x.restore();
        Check.due("errorPosition after restore", 0, x.errorPosition());
        Check.type(x, times('x', 60));
        Check.badArgument("run", () -> x.run());
        Check.type(x, "tolerance 11;tolerance 12;tolerance 13;bell 0 6000;bell 0 60");
        Check.badArgument("run", () -> x.run());
        Check.due("errorPosition, now 60", 60, x.errorPosition());
        Check.run(x, "key 1M");
        x.undo();
        Check.due("errorPosition after undo", 60, x.errorPosition());
    }

    // ---- failedCommand

    /** "if none was stored" */
    private static void promise50NoneStored() {
        Refusal.noElementIn(Valleys::empty, "failedCommand, none stored", x -> x.failedCommand());
        ValleyBells x = new ValleyBells();
        Check.run(x, "key 1M");
        Check.noElement("failedCommand after a program", () -> x.failedCommand());
        Check.badArgument("run of nothing", () -> x.run());
        Check.noElement("failedCommand after a text that is no program", () -> x.failedCommand());
        x.save();
        x.restore();
        Check.noElement("failedCommand after restore", () -> x.failedCommand());
    }

    /** "the index of the command, from 0" */
    private static void promise50FirstAndLastCommand() {
        for (int index = 0; index < 8; index++) {
            StringBuilder text = new StringBuilder();
            for (int k = 0; k < 8; k++) {
                text.append(k == 0 ? "" : ";").append(k == index ? "fell 9" : "key 1m");
            }
            Refusal.failing(Valleys::busyWithoutText, text.toString(), index);
        }
        Refusal.failing(Valleys::empty, "key 1m;fell 9;fell 9;key 12M", 1);
    }

    /** "the failed command that was stored last"; undo, save and restore do not concern it */
    private static void promise50StoredLast() {
        ValleyBells x = Valleys.busyWithoutText();
        Check.due("failedCommand", 1, x.failedCommand());
        x.save();
        Check.type(x, "fell 9");
        Check.refused("run", UnsupportedOperationException.class, () -> x.run());
        Check.due("failedCommand, now 0", 0, x.failedCommand());
        x.restore();
        Check.due("failedCommand after restore", 0, x.failedCommand());
        Check.type(x, "key 1m;key 1m;key 1m;key 1m;key 1m;key 1m;key 1m;fell 9");
        Check.refused("run", UnsupportedOperationException.class, () -> x.run());
        Check.due("failedCommand, now 7", 7, x.failedCommand());
        Check.run(x, "key 1M");
        x.undo();
        Check.due("failedCommand after undo", 7, x.failedCommand());
    }
}
