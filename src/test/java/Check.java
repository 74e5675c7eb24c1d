import java.util.NoSuchElementException;
import java.util.function.LongSupplier;

/** What all tests need: answers that are due, and texts that are fed. */
final class Check {
    static final String NSE = "NoSuchElementException";
    static final String IAE = "IllegalArgumentException";

    private static int asked = 0;
    private static int wrong = 0;
    private static String sentence = "";

    private Check() {
    }

    /** The document's words on which the answers behind this are due. */
    static void says(String words) {
        sentence = words;
    }

    private static void tellWrong(String call, String got, String want) {
        wrong++;
        System.out.println((sentence.isEmpty() ? "" : "\"" + sentence + "\": ") + call + " answered " + got + ", due is " + want);
    }

    static void due(String call, long got, long want) {
        asked++;
        if (got != want) {
            tellWrong(call, Long.toString(got), Long.toString(want));
        }
    }

    static void due(String call, boolean got, boolean want) {
        due(call, got ? 1 : 0, want ? 1 : 0);
    }

    /** What a call answers, or the name of what it throws. */
    static String outcome(LongSupplier call) {
        try {
            return Long.toString(call.getAsLong());
        } catch (RuntimeException e) {
            return e.getClass() == NoSuchElementException.class ? NSE
                : e.getClass() == IllegalArgumentException.class ? IAE : e.toString();
        }
    }

    static void same(String call, String got, String want) {
        asked++;
        if (!got.equals(want)) {
            tellWrong(call, got, want);
        }
    }

    static void throwsDue(String call, String want, LongSupplier asking) {
        same(call, outcome(asking), want);
    }

    /** Feeds a text, filled up with blanks to twenties. */
    static void feed(RiddleDoors doors, String text) {
        for (int at = 0; at < text.length(); at += 20) {
            int[] five = new int[5];
            for (int i = 0; i < 20; i++) {
                int b = at + i < text.length() ? text.charAt(at + i) & 255 : 32;
                five[i / 4] |= b << 24 - 8 * (i % 4);
            }
            doors.feed(five[0], five[1], five[2], five[3], five[4]);
        }
    }

    static int tell(RiddleDoors doors, String text) {
        feed(doors, text);
        return doors.street(text.length());
    }

    /** What street() and fault() answer to a text, on a new object. */
    static void fault(String text, int kind, int place) {
        RiddleDoors doors = new RiddleDoors();
        due("street of " + text, tell(doors, text), kind);
        due("fault of " + text, doors.fault(), place);
        due("status 0 of " + text, doors.count(6), kind == 0 ? 0 : 1);
    }

    static void good(String text) {
        fault(text, 0, RiddleDoors.NONE);
    }

    static RiddleDoors street(String text) {
        RiddleDoors doors = new RiddleDoors();
        due("street of " + text, tell(doors, text), 0);
        return doors;
    }

    static String written(RiddleDoors doors) {
        StringBuilder text = new StringBuilder();
        int length = doors.written(RiddleDoors.NONE);
        for (int i = 0; i < length; i++) {
            text.append((char) doors.written(i));
        }
        return text.toString();
    }

    static void end() {
        System.out.println(asked + " answers, " + wrong + " not as due");
        if (wrong != 0 || asked == 0) {
            System.exit(1);
        }
    }
}
