import java.lang.reflect.Constructor;
import java.lang.reflect.Field;
import java.lang.reflect.Member;
import java.lang.reflect.Method;
import java.lang.reflect.Modifier;
import java.util.Set;
import java.util.TreeSet;

/** The face has the members of the document, with their exceptions, and no other. */
final class FaceTest {
    private static final String INDEX = " IndexOutOfBoundsException";
    private static final String ARGUMENT = " IllegalArgumentException";
    private static final String STATE = " IllegalStateException";
    private static final String ELEMENT = " NoSuchElementException";
    private static final String[] FACE = {
        "int addBell(int,int)" + INDEX + ARGUMENT + STATE, "int removeBell(int)" + INDEX,
        "int tune(int,int)" + INDEX + ARGUMENT + STATE, "int moveBell(int,int)" + INDEX,
        "int graze(int,int)" + INDEX + ARGUMENT, "int setKey(int,boolean)" + ARGUMENT,
        "int setTolerance(int)" + ARGUMENT, "int addTone(int,int)" + INDEX + STATE, "int clearMelody(int)" + INDEX,
        "int setEntry(int,int)" + INDEX + ARGUMENT, "int addCliff(int,int)" + ARGUMENT + STATE,
        "int removeCliff(int)" + INDEX, "int bellCount()", "int herdOf(int)" + INDEX, "int pitch(int)" + INDEX,
        "int nearestNote(int)" + INDEX, "int deviation(int)" + INDEX, "boolean isInKey(int)" + INDEX,
        "boolean isTuned()", "int centsToKey(int)" + INDEX, "int centsToKeyByNotes(int)" + INDEX,
        "int bellAtRank(int)" + ELEMENT, "double meanDeviation() ArithmeticException",
        "float inKeyShare() ArithmeticException", "int tonic()", "boolean isMinor()", "int tolerance()",
        "boolean isInScale(int)" + ARGUMENT, "int bestTonic(boolean)", "int melodyLength(int)" + INDEX,
        "int tone(int,int)" + INDEX + ELEMENT, "int entry(int)" + INDEX,
        "int canonInterval(int,int)" + INDEX + ELEMENT, "int cliffCount()", "int delay(int)" + INDEX,
        "int transposition(int)" + INDEX, "int chordSize(int)", "int chordNote(int,int)" + ELEMENT,
        "int dissonances(int)", "int dissonancesByClasses(int)", "int thirds(int)", "int lastBeat()" + ELEMENT,
        "long totalDissonances()", "int harshestBeat()" + ELEMENT, "boolean isConsistent()",
        "int append(char)" + STATE, "int run()" + ARGUMENT + " UnsupportedOperationException",
        "int errorPosition()" + ELEMENT, "int failedCommand()" + ELEMENT, "int writeBell(int)" + INDEX,
        "int writeChord(int)", "char outputAt(int)" + INDEX, "int undo()" + STATE, "void save()",
        "void restore()" + STATE};

    public static void main(String[] args) {
        Set<String> due = new TreeSet<>(Set.of(FACE));
        Set<String> got = new TreeSet<>();
        Set<String> publicNames = new TreeSet<>();
        for (Method method : ValleyBells.class.getDeclaredMethods()) {
            if (!Modifier.isPrivate(method.getModifiers()) && !method.isSynthetic()) {
                got.add(signature(method));
                publicNames.add(method.getName());
            }
        }
        Check.due("the face", due.toString(), got.toString());
        Check.due("public final class", Modifier.PUBLIC | Modifier.FINAL, ValleyBells.class.getModifiers());
        Constructor<?>[] made = ValleyBells.class.getDeclaredConstructors();
        Check.due("constructors", 1, made.length);
        Check.due("a public constructor", Modifier.PUBLIC, made[0].getModifiers());
        Check.due("its parameters", 0, made[0].getParameterCount());
        for (Field field : ValleyBells.class.getDeclaredFields()) {
            duePrivate(field);
        }
        for (Class<?> inside : ValleyBells.class.getDeclaredClasses()) {
            Check.due(inside + " is static", true, Modifier.isStatic(inside.getModifiers()));
            Check.due(inside + " is public", false, Modifier.isPublic(inside.getModifiers()));
        }
        for (Method method : ValleyBells.class.getDeclaredMethods()) {
            if (Modifier.isPrivate(method.getModifiers())) {
                Check.due(method + " bears a public name", false, publicNames.contains(method.getName()));
            }
        }
        Check.finish("FaceTest");
    }

    private static void duePrivate(Member member) {
        Check.due(member + " is private", true, Modifier.isPrivate(member.getModifiers()));
    }

    private static String signature(Method method) {
        StringBuilder text = new StringBuilder();
        text.append(method.getReturnType().getSimpleName()).append(' ').append(method.getName()).append('(');
        for (Class<?> type : method.getParameterTypes()) {
            text.append(text.charAt(text.length() - 1) == '(' ? "" : ",").append(type.getSimpleName());
        }
        text.append(')');
        for (Class<?> type : method.getExceptionTypes()) {
            text.append(' ').append(type.getSimpleName());
        }
        return text.toString();
    }
}
