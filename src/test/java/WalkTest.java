/** Promises 28 to 30: walks over a street of two sides, and rings. */
public final class WalkTest {
    private static final int SPENT = -2;

    public static void main(String[] args) {
        walks();
        whatIsKept();
        tenAndMore();
        wrongWalks();
        rings();
        levels();
        Check.end();
    }

    private static void walk(RiddleDoors doors, int houses, int place, int crossing, int length, int... row) {
        String call = "walk(" + houses + ", " + place + ", " + crossing + ")";
        Check.due(call, doors.walk(houses, place, crossing), length);
        Check.due(call + " numbers", doors.door(RiddleDoors.NONE), row.length);
        for (int i = 0; i < row.length; i++) {
            Check.due(call + " number " + i, doors.door(i), row[i]);
        }
        Check.throwsDue(call + " behind the last", Check.NSE, () -> doors.door(row.length));
    }

    private static void walks() {
        RiddleDoors doors = Check.street("most 8;house says here<4;house says here=6 or here=8;house says here=2;");
        // By halves: 1 and 2 at 1, 3 at 2, 6 at 3, 8 at 4
        walk(doors, 1, 1, 0, 1, 1, 2, 3);
        walk(doors, 1, 1, 5, 7, 1, 3, 2);
        walk(doors, 1, 8, 9, 13, 2, 1, 3);
        walk(doors, 2, 1, 3, 6, 6, 8);
        walk(doors, 2, 8, 3, 1, 8, 6);
        walk(doors, 4, 2, 3, 0, 2);
        walk(doors, 3, 4, 1, 6, 2, 1, 3, 6, 8);
        walk(doors, 7, 4, 0, 4, 1, 2, 3, 6, 8);
        walk(doors, 0, 4, 1, 0);
        RiddleDoors none = Check.street("house says 0;");
        walk(none, 1, 9, 9, 0);
        walk(new RiddleDoors(), 0, 9, 9, 0);
    }

    private static void whatIsKept() {
        RiddleDoors doors = Check.street("most 11;house says here<3;house;");
        walk(doors, 1, 2, 4, 4, 2, 1);
        Check.due("eleven numbers are too many", doors.walk(2, 1, 1), SPENT);
        Check.due("what was kept stays", doors.door(0), 2);
        Check.throwsDue("a wrong walk", Check.IAE, () -> doors.walk(1, 12, 1));
        Check.due("what was kept stays then", doors.door(-1), 2);
        doors.become(0, 0, 4);
        doors.mute(0, true);
        doors.letter(0, 11);
        Check.due("whatever is done", doors.door(1), 1);
        doors.image();
        doors.restore();
        Check.due("or restored", doors.door(1), 1);
        Check.throwsDue("door(-2)", Check.NSE, () -> doors.door(-2));
        walk(doors, 1, 1, 0, 5, 11);
    }

    private static void tenAndMore() {
        RiddleDoors doors = Check.street("most 20;house says here<11;house says here=11;");
        walk(doors, 1, 1, 9, 17, 1, 3, 5, 7, 9, 10, 8, 6, 4, 2);
        walk(doors, 1, 1, 0, 4, 1, 2, 3, 4, 5, 6, 7, 8, 9, 10);
        Check.due("eleven of two", doors.walk(3, 1, 0), SPENT);
        walk(doors, 2, 20, 2, 6, 11);
    }

    private static void wrongWalks() {
        RiddleDoors doors = Check.street("most 5;house;house;");
        Check.throwsDue("house 2", Check.IAE, () -> doors.walk(4, 1, 0));
        Check.throwsDue("houses below 0", Check.IAE, () -> doors.walk(-1, 1, 0));
        Check.throwsDue("the last bit", Check.IAE, () -> doors.walk(Integer.MIN_VALUE, 1, 0));
        Check.throwsDue("place 0", Check.IAE, () -> doors.walk(1, 0, 0));
        Check.throwsDue("place 6", Check.IAE, () -> doors.walk(1, 6, 0));
        Check.throwsDue("crossing -1", Check.IAE, () -> doors.walk(1, 1, -1));
        Check.throwsDue("crossing 10", Check.IAE, () -> doors.walk(1, 1, 10));
        Check.throwsDue("none was kept", Check.NSE, () -> doors.door(-1));
        Check.throwsDue("none was kept to see", Check.NSE, () -> doors.door(0));
    }

    private static void ringsDue(RiddleDoors doors, int... due) {
        for (int h = 0; h < due.length; h++) {
            Check.due("ring(" + h + ", 0)", doors.ring(h, 0), due[h]);
        }
    }

    private static void levelsDue(RiddleDoors doors, int... due) {
        for (int h = 0; h < due.length; h++) {
            Check.due("ring(" + h + ", 1)", doors.ring(h, 1), due[h]);
        }
    }

    private static void rings() {
        RiddleDoors eight = Check.street("house says after;".repeat(7) + "house says of 0;");
        ringsDue(eight, 8, 8, 8, 8, 8, 8, 8, 8);
        levelsDue(eight, -1, -1, -1, -1, -1, -1, -1, -1);
        eight.mute(3, true);
        ringsDue(eight, -1, -1, -1, -1, -1, -1, -1, -1);
        levelsDue(eight, 3, 2, 1, 0, 7, 6, 5, 4);
        RiddleDoors both = Check.street("house says of 1+of 2;house says of 2;house says of 0;house says of 0;house says here;");
        ringsDue(both, 2, 3, 2, -1, -1);
        levelsDue(both, -1, -1, -1, -1, 0);
        Check.throwsDue("ring(5, 0)", Check.NSE, () -> both.ring(5, 0));
        Check.throwsDue("ring(-1, 0)", Check.NSE, () -> both.ring(-1, 0));
        Check.throwsDue("ring(0, 2)", Check.NSE, () -> both.ring(0, 2));
        Check.throwsDue("ring(0, -1)", Check.NSE, () -> both.ring(0, -1));
    }

    private static void levels() {
        levelsDue(Check.street("house says before+after;house says here=1;house says of 0*of 1;house;house says of 2+of 3+of 7;"),
            1, 0, 2, 0, 3);
        levelsDue(Check.street("house says here*before;house says after;"), 0, 0);
    }
}
