/** Counts and prints the answers that are not as due; each test class has its own machine. */
final class Check {
    interface Call {
        void make();
    }

    private static int right = 0;
    private static int wrong = 0;

    private Check() {
    }

    static void due(String call, long due, long got) {
        count(due == got, call + " answered " + got + ", due is " + due);
    }

    static void due(String call, boolean due, boolean got) {
        count(due == got, call + " answered " + got + ", due is " + due);
    }

    static void due(String call, String due, String got) {
        count(due.equals(got), call + " answered \"" + got + "\", due is \"" + due + "\"");
    }

    static void dueDouble(String call, double due, double got) {
        count(due == got, call + " answered " + got + ", due is " + due);
    }

    /** The very class is due: a subclass would be an exception of the machine. */
    static void refused(String call, Class<? extends RuntimeException> due, Call made) {
        Class<?> got = null;
        try {
            made.make();
        } catch (RuntimeException e) {
            got = e.getClass();
        }
        count(due == got, call + " threw " + got + ", due is " + due);
    }

    static void noIndex(String call, Call made) {
        refused(call, IndexOutOfBoundsException.class, made);
    }

    static void badArgument(String call, Call made) {
        refused(call, IllegalArgumentException.class, made);
    }

    static void badState(String call, Call made) {
        refused(call, IllegalStateException.class, made);
    }

    static void noElement(String call, Call made) {
        refused(call, java.util.NoSuchElementException.class, made);
    }

    /** The output line. */
    static String line(ValleyBells x) {
        StringBuilder read = new StringBuilder();
        for (int k = 0; k < 1000; k++) {
            try {
                read.append(x.outputAt(k));
            } catch (IndexOutOfBoundsException e) {
                break;
            }
        }
        return read.toString();
    }

    static void type(ValleyBells x, String text) {
        for (int k = 0; k < text.length(); k++) {
            x.append(text.charAt(k));
        }
    }

    static int run(ValleyBells x, String text) {
        type(x, text);
        return x.run();
    }

    static void finish(String test) {
        System.out.println(test + ": " + right + " answers as due, " + wrong + " not");
        if (wrong != 0 || right == 0) {
            System.exit(1);
        }
    }

    private static void count(boolean isRight, String complaint) {
        if (isRight) {
            right++;
        } else {
            wrong++;
            System.out.println(complaint);
        }
    }
}
