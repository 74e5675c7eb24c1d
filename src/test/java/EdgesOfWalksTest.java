/** Each sentence of the document that names a boundary of promises 28 to 30: walks, what is kept of them, rings, levels. */
public final class EdgesOfWalksTest {
    private static final int SPENT = -2;
    private static final int NONE = RiddleDoors.NONE;
    private static final int MIN = Integer.MIN_VALUE;
    private static final int MAX = Integer.MAX_VALUE;

    public static void main(String[] args) {
        howFar();
        oneSide();
        shortest();
        firstAsARow();
        eachOnce();
        tenNumbers();
        numberingsAreSpent();
        noNumbers();
        wrongHouses();
        wrongPlaces();
        wrongCrossings();
        keptUnlessSpent();
        doorsOfIt();
        noneIsKept();
        rings();
        fewest();
        ringsOfOne();
        noughtLevel();
        levels();
        noLevel();
        mutedOnes();
        wrongRings();
        Check.end();
    }

    private static void walk(RiddleDoors doors, int houses, int place, int crossing, int length, int... row) {
        String call = "walk(" + houses + ", " + place + ", " + crossing + ")";
        Check.due(call, doors.walk(houses, place, crossing), length);
        Check.due(call + ": how many", doors.door(NONE), row.length);
        for (int i = 0; i < row.length; i++) {
            Check.due(call + ": number " + i, doors.door(i), row[i]);
        }
    }

    private static void howFar() {
        Check.says("from v to w it is as far as v and 1 by 2, cut down, is from w and 1 by 2, cut down");
        for (int v = 1; v <= 20; v++) {
            RiddleDoors doors = Check.street("most 20;house says here=" + v + ";");
            for (int w = 1; w <= 20; w++) {
                int far = Math.abs((v + 1) / 2 - (w + 1) / 2);
                walk(doors, 1, w, 0, far, v);
                walk(doors, 1, w, 9, far + (v % 2 == w % 2 ? 0 : 9), v);
            }
        }
    }

    private static void oneSide() {
        Check.says("and as much more as CROSSING costs (0 to 9), if they are not on one side");
        RiddleDoors doors = Check.street("most 20;house says here=1;house says here=2;house says here=20;");
        walk(doors, 1, 1, 9, 0, 1);
        walk(doors, 2, 1, 0, 0, 2);
        walk(doors, 2, 1, 1, 1, 2);
        walk(doors, 2, 1, 9, 9, 2);
        walk(doors, 4, 1, 9, 18, 20);
        walk(doors, 4, 2, 9, 9, 20);
    }

    private static void shortest() {
        Check.says("The shortest way from a place to all NUMBERS that these HOUSES may have");
        RiddleDoors doors = Check.street("most 8;house says here<4;house says here=6 or here=8;house says here=2;");
        walk(doors, 1, 1, 5, 7, 1, 3, 2);
        walk(doors, 1, 8, 9, 13, 2, 1, 3);
        walk(doors, 3, 4, 1, 6, 2, 1, 3, 6, 8);
        walk(doors, 2, 8, 3, 1, 8, 6);
        walk(doors, 2, 7, 3, 4, 8, 6);
    }

    private static void firstAsARow() {
        Check.says("of like ones the first as a row of NUMBERS");
        RiddleDoors doors = Check.street("most 8;house says here<5;house says here=3 or here=5 or here=7;");
        // Without cost all four of 1 and 2, 3 and 4 are in any order within each pair.
        walk(doors, 1, 1, 0, 1, 1, 2, 3, 4);
        walk(doors, 1, 4, 0, 1, 3, 4, 1, 2);
        walk(doors, 1, 8, 0, 3, 3, 4, 1, 2);
        // From the middle to both ends: as far to begin with the one or the other.
        walk(doors, 2, 5, 3, 3, 3, 5, 7);
        walk(doors, 2, 6, 0, 3, 3, 5, 7);
    }

    private static void eachOnce() {
        Check.says("each once, in some order");
        RiddleDoors doors = Check.street("most 5;house says here<3;house says here<3;house says here=2;");
        walk(doors, 7, 1, 0, 0, 1, 2);
        walk(doors, 3, 2, 9, 9, 2, 1);
        walk(doors, 5, 2, 0, 0, 1, 2);
    }

    private static void tenNumbers() {
        Check.says("SPENT: these are more than 10");
        RiddleDoors doors = Check.street("most 20;house says here<11;house says here=11;");
        walk(doors, 1, 1, 0, 4, 1, 2, 3, 4, 5, 6, 7, 8, 9, 10);
        walk(doors, 1, 1, 9, 17, 1, 3, 5, 7, 9, 10, 8, 6, 4, 2);
        RiddleDoors others = Check.street("most 20;house says 10<here;house says here=11;house says here=10;");
        walk(others, 1, 20, 9, 17, 20, 18, 16, 14, 12, 11, 13, 15, 17, 19);
        walk(others, 3, 20, 9, 17, 20, 18, 16, 14, 12, 11, 13, 15, 17, 19);
        Check.due("eleven", others.walk(5, 1, 0), SPENT);
        Check.due("eleven of two", Check.street("most 20;house says here<11;house says here=11;").walk(3, 1, 0), SPENT);
        Check.due("eleven of one", Check.street("most 11;house;").walk(1, 1, 0), SPENT);
        Check.due("twenty of one", Check.street("most 20;house;").walk(1, 20, 9), SPENT);
        Check.due("ten of one", Check.street("most 10;house;").walk(1, 1, 0), 4);
    }

    private static void numberingsAreSpent() {
        Check.says("SPENT: these are more than 10 (or NUMBERINGS are).");
        RiddleDoors doors = Check.street("most 11;house;house;house;house says here=1;");
        Check.due("numberings", doors.numberings(), SPENT);
        Check.due("a house of one number", doors.walk(8, 1, 0), SPENT);
        Check.due("no house", doors.walk(0, 1, 0), SPENT);
        Check.throwsDue("none is kept", Check.NSE, () -> doors.door(NONE));
    }

    private static void noNumbers() {
        Check.says("The shortest way from a place to all NUMBERS that these HOUSES may have");
        walk(new RiddleDoors(), 0, 9, 9, 0);
        walk(Check.street("house;"), 0, 9, 9, 0);
        walk(Check.street("house says 0;"), 1, 9, 9, 0);
    }

    private static void wrongHouses() {
        Check.says("IllegalArgumentException: bits of HOUSES that there aren't, the place, CROSSING.");
        RiddleDoors two = Check.street("most 5;house says here=1;house says here=2;");
        Check.due("both", two.walk(3, 1, 0), 0);
        for (int houses : new int[] {4, 5, 7, 8, 255, 256, 1 << 30, -1, -4, MIN, MIN + 1, MAX}) {
            Check.throwsDue("walk(" + houses + ", 1, 0)", Check.IAE, () -> two.walk(houses, 1, 0));
        }
        RiddleDoors eight = Check.street("most 2;" + "house says here=1;".repeat(8));
        Check.due("all eight", eight.walk(255, 1, 0), 0);
        Check.throwsDue("a ninth", Check.IAE, () -> eight.walk(256, 1, 0));
        Check.throwsDue("all bits", Check.IAE, () -> eight.walk(-1, 1, 0));
        RiddleDoors none = new RiddleDoors();
        Check.throwsDue("one of none", Check.IAE, () -> none.walk(1, 1, 0));
        Check.throwsDue("the last bit", Check.IAE, () -> none.walk(MIN, 1, 0));
    }

    private static void wrongPlaces() {
        Check.says("IllegalArgumentException: bits of HOUSES that there aren't, the place, CROSSING.");
        RiddleDoors doors = Check.street("most 5;house says here=1;");
        Check.due("place 1", doors.walk(1, 1, 0), 0);
        Check.due("place 5", doors.walk(1, 5, 0), 2);
        for (int place : new int[] {0, 6, -1, MIN, MAX}) {
            Check.throwsDue("walk(1, " + place + ", 0)", Check.IAE, () -> doors.walk(1, place, 0));
            Check.throwsDue("walk(0, " + place + ", 0)", Check.IAE, () -> doors.walk(0, place, 0));
        }
    }

    private static void wrongCrossings() {
        Check.says("CROSSING costs (0 to 9)");
        RiddleDoors doors = Check.street("most 5;house says here=1;");
        Check.due("0", doors.walk(1, 2, 0), 0);
        Check.due("9", doors.walk(1, 2, 9), 9);
        for (int crossing : new int[] {-1, 10, MIN, MAX}) {
            Check.throwsDue("walk(1, 1, " + crossing + ")", Check.IAE, () -> doors.walk(1, 1, crossing));
            Check.throwsDue("walk(0, 1, " + crossing + ")", Check.IAE, () -> doors.walk(0, 1, crossing));
        }
    }

    private static void keptUnlessSpent() {
        Check.says("A WALK: how long; it is kept (unless it is SPENT).");
        RiddleDoors doors = Check.street("most 11;house says here<3;house;");
        walk(doors, 1, 2, 4, 4, 2, 1);
        Check.due("spent", doors.walk(2, 1, 1), SPENT);
        Check.due("the one ahead of it stays", doors.door(NONE), 2);
        Check.due("its first number", doors.door(0), 2);
        Check.throwsDue("a wrong one", Check.IAE, () -> doors.walk(4, 1, 1));
        Check.due("the one ahead of it stays", doors.door(1), 1);
        doors.become(0, 0, 5);
        doors.mute(0, true);
        doors.letter(0, 7);
        doors.undo();
        doors.image();
        doors.restore();
        doors.tried(1, 2, 2, 0);
        doors.looks(0);
        doors.build(0);
        Check.due("whatever is done or asked", doors.door(0), 2);
        walk(doors, 0, 1, 1, 0);
        Check.throwsDue("in place of it", Check.NSE, () -> doors.door(0));
    }

    private static void doorsOfIt() {
        Check.says("The i-th NUMBER of the WALK that is kept; how many (i NONE).");
        RiddleDoors doors = Check.street("most 10;house;");
        Check.due("walk", doors.walk(1, 1, 0), 4);
        Check.due("how many", doors.door(NONE), 10);
        Check.due("the first", doors.door(0), 1);
        Check.due("the last", doors.door(9), 10);
        for (int i : new int[] {-2, 10, MIN, MAX}) {
            Check.throwsDue("door(" + i + ")", Check.NSE, () -> doors.door(i));
        }
    }

    private static void noneIsKept() {
        Check.says("NoSuchElementException: none is kept since the STREET came, there is none.");
        RiddleDoors doors = Check.street("most 3;house;");
        Check.throwsDue("door(-1) of none", Check.NSE, () -> doors.door(NONE));
        Check.throwsDue("door(0) of none", Check.NSE, () -> doors.door(0));
        doors.walk(0, 1, 0);
        Check.due("door(-1) of an empty one", doors.door(NONE), 0);
        Check.throwsDue("door(0) of an empty one", Check.NSE, () -> doors.door(0));
        doors.walk(1, 1, 0);
        Check.due("a fault", Check.tell(doors, "x"), 1);
        Check.due("kept behind a fault", doors.door(NONE), 3);
        Check.throwsDue("a plant that is refused", Check.IAE, () -> doors.plant(1, 0));
        Check.due("kept behind that", doors.door(NONE), 3);
        Check.due("a street", Check.tell(doors, "most 3;house;"), 0);
        Check.throwsDue("gone", Check.NSE, () -> doors.door(NONE));
        doors.walk(1, 1, 0);
        doors.plant(1, 1);
        Check.throwsDue("gone by plant", Check.NSE, () -> doors.door(NONE));
    }

    private static void ringsDue(String text, int... due) {
        RiddleDoors doors = Check.street(text);
        for (int h = 0; h < due.length; h++) {
            Check.due("ring(" + h + ", 0) of " + text, doors.ring(h, 0), due[h]);
        }
    }

    private static void levelsDue(String text, int... due) {
        RiddleDoors doors = Check.street(text);
        for (int h = 0; h < due.length; h++) {
            Check.due("ring(" + h + ", 1) of " + text, doors.ring(h, 1), due[h]);
        }
    }

    private static void rings() {
        Check.says("THE RING of a HOUSE: the fewest HOUSES by which, each leaning on the next, one comes back to it (2 or more); none.");
        ringsDue("house;", NONE);
        ringsDue("house says 1;", NONE);
        ringsDue("house says after;house says before;", 2, 2);
        ringsDue("house says after;".repeat(7) + "house says of 0;", 8, 8, 8, 8, 8, 8, 8, 8);
        ringsDue("house says after;".repeat(8), NONE, NONE, NONE, NONE, NONE, NONE, NONE, NONE);
        ringsDue("house says before;".repeat(8), NONE, NONE, NONE, NONE, NONE, NONE, NONE, NONE);
    }

    private static void fewest() {
        Check.says("the fewest HOUSES");
        ringsDue("house says of 1+of 2;house says of 2;house says of 0;", 2, 3, 2);
        ringsDue("house says of 1;house says of 2;house says of 0+of 3;house says of 2;", 3, 3, 2, 2);
        // It leads into a ring, but is in none.
        ringsDue("house says of 1;house says of 2;house says of 1;", NONE, 2, 2);
        ringsDue("house says of 1;house says of 0;house says of 0;house;", 2, 2, NONE, NONE);
    }

    private static void ringsOfOne() {
        Check.says("a HOUSE leans on others at which its RIDDLE (not a MUTED one) looks");
        ringsDue("house says here;house says of 1;", NONE, NONE);
        levelsDue("house says here;house says of 1;", 0, 0);
        ringsDue("house says here+after;house says here+before;", 2, 2);
    }

    private static void noughtLevel() {
        Check.says("ITS LEVEL: 0, if it leans on none");
        levelsDue("house;", 0);
        levelsDue("house says sons;house says before*0+here;", 0, 1);
        levelsDue("house says before;house says after;", 0, 0);
        levelsDue("house says of 1+of 7;", 0);
    }

    private static void levels() {
        Check.says("else 1 more than the greatest LEVEL of those on which it leans");
        levelsDue("house says after;".repeat(7) + "house;", 7, 6, 5, 4, 3, 2, 1, 0);
        levelsDue("house;" + "house says before;".repeat(7), 0, 1, 2, 3, 4, 5, 6, 7);
        levelsDue("house;house says of 0;house says of 0+of 1;house says of 0+of 2;house says of 0;", 0, 1, 2, 3, 1);
        levelsDue("house says of 4;house says of 3;house says of 0;house says of 2;house;", 1, 4, 2, 3, 0);
    }

    private static void noLevel() {
        Check.says("none, if one of those has none, or it is in a RING");
        levelsDue("house says after;house says before;", NONE, NONE);
        levelsDue("house says after;house says before;house says before;house says of 2+of 4;house;", NONE, NONE, NONE, NONE, 0);
        levelsDue("house says of 1;house says of 2;house says of 3;house says of 2;house says of 5;house;", NONE, NONE, NONE, NONE, 1, 0);
        levelsDue("house says after;".repeat(7) + "house says of 0;", NONE, NONE, NONE, NONE, NONE, NONE, NONE, NONE);
    }

    private static void mutedOnes() {
        Check.says("its RIDDLE (not a MUTED one)");
        RiddleDoors doors = Check.street("house says after;house says before;house says before;");
        doors.mute(1, true);
        int[] rings = {NONE, NONE, NONE};
        int[] levels = {1, 0, 1};
        for (int h = 0; h < 3; h++) {
            Check.due("ring(" + h + ", 0)", doors.ring(h, 0), rings[h]);
            Check.due("ring(" + h + ", 1)", doors.ring(h, 1), levels[h]);
        }
        doors.mute(1, false);
        Check.due("again", doors.ring(0, 0), 2);
        Check.due("no level again", doors.ring(2, 1), NONE);
    }

    private static void wrongRings() {
        Check.says("NoSuchElementException: also another what.");
        RiddleDoors doors = Check.street("house;house;");
        for (int wrong : new int[] {-1, 2, MIN, MAX}) {
            Check.throwsDue("ring(" + wrong + ", 0)", Check.NSE, () -> doors.ring(wrong, 0));
            Check.throwsDue("ring(" + wrong + ", 1)", Check.NSE, () -> doors.ring(wrong, 1));
            Check.throwsDue("ring(0, " + wrong + ")", Check.NSE, () -> doors.ring(0, wrong));
        }
        Check.throwsDue("of no houses", Check.NSE, () -> new RiddleDoors().ring(0, 0));
    }
}
