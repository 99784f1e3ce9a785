import java.util.function.Function;
import java.util.function.Supplier;

/**
 * Refused calls: the exception that is due, and that nothing has changed. Two valleys are made
 * alike, one of them makes the refused call, and both are then asked the same. An object answers
 * for 512 calls only, and some questions change it, so each kind of question has a pair of its own.
 */
final class Refusal {
    interface Call {
        void on(ValleyBells x);
    }

    private static final int UNDOS = 9;

    private Refusal() {
    }

    // ---- in an empty, a busy and a full valley

    static void noIndex(String name, Call call) {
        everywhere(name, IndexOutOfBoundsException.class, call);
    }

    static void badArgument(String name, Call call) {
        everywhere(name, IllegalArgumentException.class, call);
    }

    static void noElement(String name, Call call) {
        everywhere(name, java.util.NoSuchElementException.class, call);
    }

    private static void everywhere(String name, Class<? extends RuntimeException> due, Call call) {
        in(Valleys::empty, name + " in an empty valley", due, call);
        in(Valleys::busy, name + " in a busy valley", due, call);
        in(Valleys::full, name + " in a full valley", due, call);
    }

    // ---- in one valley

    static void noIndexIn(Supplier<ValleyBells> start, String name, Call call) {
        in(start, name, IndexOutOfBoundsException.class, call);
    }

    static void badArgumentIn(Supplier<ValleyBells> start, String name, Call call) {
        in(start, name, IllegalArgumentException.class, call);
    }

    static void badStateIn(Supplier<ValleyBells> start, String name, Call call) {
        in(start, name, IllegalStateException.class, call);
    }

    static void noElementIn(Supplier<ValleyBells> start, String name, Call call) {
        in(start, name, java.util.NoSuchElementException.class, call);
    }

    static void in(Supplier<ValleyBells> start, String name, Class<? extends RuntimeException> due, Call call) {
        Supplier<ValleyBells> refused = () -> {
            ValleyBells x = start.get();
            Check.refused(name, due, () -> call.on(x));
            return x;
        };
        alike(name + ", then all questions", start, refused, Refusal::asked);
        alike(name + ", then the text", start, refused, Refusal::typed);
        alikeInThePast(name, start, refused);
    }

    // ---- of run

    /** The text is not a program: the error position is stored, and the failed command stays. */
    static void noProgram(String text, int position) {
        refusedRun(text, IllegalArgumentException.class, x -> Integer.toString(position), Valleys::failedCommand);
    }

    /** A command fails: its index is stored, and the error position stays. */
    static void failing(Supplier<ValleyBells> start, String text, int command) {
        refusedRunIn(start, text, UnsupportedOperationException.class,
            Valleys::errorPosition, x -> Integer.toString(command));
    }

    private static void refusedRun(String text, Class<? extends RuntimeException> due,
            Function<ValleyBells, String> errorPosition, Function<ValleyBells, String> failedCommand) {
        refusedRunIn(Valleys::empty, text, due, errorPosition, failedCommand);
        refusedRunIn(Valleys::busyWithoutText, text, due, errorPosition, failedCommand);
        refusedRunIn(Valleys::fullWithoutText, text, due, errorPosition, failedCommand);
    }

    private static void refusedRunIn(Supplier<ValleyBells> start, String text, Class<? extends RuntimeException> due,
            Function<ValleyBells, String> errorPosition, Function<ValleyBells, String> failedCommand) {
        String name = "run of \"" + text + "\"";
        Supplier<ValleyBells> refused = () -> {
            ValleyBells x = start.get();
            Check.type(x, text);
            Check.refused(name, due, () -> x.run());
            return x;
        };
        ValleyBells before = start.get();
        ValleyBells x = refused.get();
        Check.due("errorPosition after " + name, errorPosition.apply(before), Valleys.errorPosition(x));
        Check.due("failedCommand after " + name, failedCommand.apply(before), Valleys.failedCommand(x));
        Check.due("append after " + name + ": the text is empty", 1, x.append('k'));
        alike(name + ", then all questions", start, refused, Valleys::answers);
        alikeInThePast(name, start, refused);
    }

    // ---- the questions

    private static void alikeInThePast(String name, Supplier<ValleyBells> start, Supplier<ValleyBells> refused) {
        alike(name + ", then restore", start, refused, Refusal::restored);
        for (int undos = 1; undos <= UNDOS; undos++) {
            int times = undos;
            alike(name + ", then undo " + times + " times", start, refused, x -> undone(x, times));
        }
    }

    private static void alike(String name, Supplier<ValleyBells> start, Supplier<ValleyBells> refused,
            Function<ValleyBells, String> question) {
        Check.due(name, question.apply(start.get()), question.apply(refused.get()));
    }

    private static String asked(ValleyBells x) {
        return Valleys.answers(x) + ' ' + Valleys.errorPosition(x) + ' ' + Valleys.failedCommand(x);
    }

    /** What the text is shows when it is run: a mode ends the text of a busy valley. */
    private static String typed(ValleyBells x) {
        return Valleys.answer(() -> x.append('m')) + ' ' + Valleys.answer(() -> x.run()) + ' '
            + Valleys.errorPosition(x) + ' ' + Valleys.failedCommand(x) + ' ' + Valleys.state(x);
    }

    private static String undone(ValleyBells x, int times) {
        StringBuilder text = new StringBuilder();
        for (int k = 0; k < times; k++) {
            text.append(Valleys.answer(() -> x.undo())).append(' ');
        }
        return text.append(Valleys.state(x)).toString();
    }

    private static String restored(ValleyBells x) {
        return Valleys.answer(() -> {
            x.restore();
            return "restored";
        }) + ' ' + Valleys.answer(() -> x.undo()) + ' ' + Valleys.state(x);
    }
}
