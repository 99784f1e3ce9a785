/** A day in a valley; README.md shows this file and what it prints. */
public final class Example {
    public static void main(String[] arguments) {
        ValleyBells valley = new ValleyBells();

        // A new valley is in C major, with a tolerance of 10 cents. E4 has 6400 cents, G4 has 6700.
        int first = valley.addBell(0, 6412);
        int second = valley.addBell(1, 6705);
        System.out.println(line(valley, valley.writeBell(first)));
        System.out.println(line(valley, valley.writeBell(second)));
        System.out.println("tuned: " + valley.isTuned());
        int cents = valley.centsToKey(first);
        System.out.println("tune by " + cents + ": " + valley.tune(first, cents));
        System.out.println("tuned: " + valley.isTuned());

        // The melody of herd 0, and a cliff that answers a beat later and an octave higher.
        valley.addTone(0, first);
        valley.addTone(0, second);
        valley.addCliff(1, 12);
        System.out.println("beat 1: " + line(valley, valley.writeChord(1)));
        System.out.println("last beat: " + valley.lastBeat());

        // A call that is refused throws what the document names, and changes nothing.
        try {
            valley.addBell(4, 6000);
        } catch (IndexOutOfBoundsException e) {
            System.out.println("there is no herd 4; bells: " + valley.bellCount());
        }

        // A program is typed character by character; one undo takes all its commands back.
        valley.save();
        System.out.println("commands: " + run(valley, "key 7M;entry 0 3"));
        System.out.println("tonic " + valley.tonic() + ", last beat " + valley.lastBeat());
        System.out.println("calls that can still be undone: " + valley.undo());
        System.out.println("tonic " + valley.tonic() + ", last beat " + valley.lastBeat());
        try {
            run(valley, "key 7M;clear x");
        } catch (IllegalArgumentException e) {
            System.out.println("no program, by the character " + valley.errorPosition());
        }
        try {
            run(valley, "key 7M;clear 4");
        } catch (UnsupportedOperationException e) {
            System.out.println("command " + valley.failedCommand() + " failed; tonic " + valley.tonic());
        }

        // What was saved stays saved; after restore no call can be undone.
        System.out.println("removed tones: " + valley.removeBell(first));
        valley.restore();
        System.out.println("bells: " + valley.bellCount() + ", consistent: " + valley.isConsistent());
    }

    /** Types a text into the text buffer, and runs it. */
    private static int run(ValleyBells valley, String text) {
        for (int k = 0; k < text.length(); k++) {
            valley.append(text.charAt(k));
        }
        return valley.run();
    }

    /** Reads the output line, whose length the call that wrote it has answered. */
    private static String line(ValleyBells valley, int length) {
        StringBuilder text = new StringBuilder();
        for (int k = 0; k < length; k++) {
            text.append(valley.outputAt(k));
        }
        return text.toString();
    }
}
