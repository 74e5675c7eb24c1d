import java.util.NoSuchElementException;
import java.util.function.LongSupplier;

/** What all tests need: answers that are due, and texts that are fed. */
final class Check {
    static final String NSE = "NoSuchElementException";
    static final String IAE = "IllegalArgumentException";

    private static int asked = 0;
    private static int wrong = 0;

    private Check() {
    }

    static void due(String call, long got, long want) {
        asked++;
        if (got != want) {
            wrong++;
            System.out.println(call + " answered " + got + ", due is " + want);
        }
    }

    static void due(String call, boolean got, boolean want) {
        due(call, got ? 1 : 0, want ? 1 : 0);
    }

    /** What a call answers, or the name of what it throws. */
    static String outcome(LongSupplier call) {
        try {
            return Long.toString(call.getAsLong());
        } catch (RuntimeException e) {
            return e.getClass() == NoSuchElementException.class ? NSE
                : e.getClass() == IllegalArgumentException.class ? IAE : e.toString();
        }
    }

    static void same(String call, String got, String want) {
        asked++;
        if (!got.equals(want)) {
            wrong++;
            System.out.println(call + " answered " + got + ", due is " + want);
        }
    }

    static void throwsDue(String call, String want, LongSupplier asking) {
        same(call, outcome(asking), want);
    }

    /** Feeds a text, filled up with blanks to twenties. */
    static void feed(RiddleDoors doors, String text) {
        for (int at = 0; at < text.length(); at += 20) {
            int[] five = new int[5];
            for (int i = 0; i < 20; i++) {
                int b = at + i < text.length() ? text.charAt(at + i) & 255 : 32;
                five[i / 4] |= b << 24 - 8 * (i % 4);
            }
            doors.feed(five[0], five[1], five[2], five[3], five[4]);
        }
    }

    static int tell(RiddleDoors doors, String text) {
        feed(doors, text);
        return doors.street(text.length());
    }

    static RiddleDoors street(String text) {
        RiddleDoors doors = new RiddleDoors();
        due("street of " + text, tell(doors, text), 0);
        return doors;
    }

    static String written(RiddleDoors doors) {
        StringBuilder text = new StringBuilder();
        int length = doors.written(RiddleDoors.NONE);
        for (int i = 0; i < length; i++) {
            text.append((char) doors.written(i));
        }
        return text.toString();
    }

    static void end() {
        System.out.println(asked + " answers, " + wrong + " not as due");
        if (wrong != 0 || asked == 0) {
            System.exit(1);
        }
    }
}
