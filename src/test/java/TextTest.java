/** Promises 1 to 6 and 31: a new object, the tape, texts and their faults, what riddles are worth, the street written. */
public final class TextTest {
    private static final String SIX_NOTS = "not not not not not not ";

    public static void main(String[] args) {
        newObject();
        tape();
        lines();
        expressions();
        bounds();
        whatAFaultLeaves();
        whatAStreetClears();
        houses();
        values();
        written();
        Check.end();
    }

    private static void newObject() {
        RiddleDoors doors = new RiddleDoors();
        int[] counts = {0, 9, 0, 0, 0, 0, 0, 0, 0};
        for (int i = 0; i < counts.length; i++) {
            Check.due("new count(" + i + ")", doors.count(i), counts[i]);
        }
        Check.throwsDue("count(9)", Check.NSE, () -> doors.count(9));
        Check.throwsDue("count(-1)", Check.NSE, () -> doors.count(-1));
        Check.due("new fault()", doors.fault(), RiddleDoors.NONE);
        Check.same("new written", Check.written(doors), "most 9;");
        Check.throwsDue("new house(0, 0)", Check.NSE, () -> doors.house(0, 0));
        Check.throwsDue("new door(-1)", Check.NSE, () -> doors.door(-1));
        Check.due("new restore", doors.restore(), false);
    }

    private static void tape() {
        RiddleDoors doors = new RiddleDoors();
        Check.throwsDue("street(1) of no tape", Check.IAE, () -> doors.street(1));
        Check.throwsDue("street(-1)", Check.IAE, () -> doors.street(-1));
        for (int i = 1; i <= 25; i++) {
            Check.due("feed " + i, doors.feed(0x686f7573, 0x653b2020, 0x20202020, 0x20202020, 0x20202020), 20 * i);
        }
        Check.due("feed 26", doors.feed(0, 0, 0, 0, 0), RiddleDoors.NONE);
        Check.due("bytes of the tape", doors.count(5), 500);
        Check.throwsDue("street(501)", Check.IAE, () -> doors.street(501));
        Check.due("bytes behind that", doors.count(5), 500);
        Check.due("status behind that", doors.count(6), 0);
        Check.due("street(160)", doors.street(160), 0);
        Check.due("houses", doors.count(0), 8);
        Check.due("the tape is empty", doors.count(5), 0);
        Check.feed(doors, "most 5;");
        Check.due("street(0)", doors.street(0), 0);
        Check.due("no houses", doors.count(0), 0);
        Check.due("most of an empty text", doors.count(1), 9);
        Check.due("the tape is empty again", doors.count(5), 0);
    }

    private static void lines() {
        Check.good("");
        Check.good("most 2;");
        Check.good("most 20;");
        Check.good("most5;");
        Check.good("most 0020;");
        Check.good("\nmost\n5\n;\n");
        Check.fault("most 1;", 2, 5);
        Check.fault("most 21;", 2, 5);
        Check.fault("most 00020;", 2, 5);
        Check.fault("most;", 1, 4);
        Check.fault("most x;", 1, 5);
        Check.fault("most 5", 1, 6);
        Check.fault("most 5  ", 1, 8);
        Check.fault("most 5;most 6;", 4, 7);
        Check.fault("most 5; most 99999;", 4, 8);
        Check.fault("unlike;unlike;", 4, 7);
        Check.fault("unlike 1;", 1, 7);
        Check.fault("unlikely;", 1, 0);
        Check.fault("Most 5;", 1, 0);
        Check.fault("most\t5;", 1, 4);
        Check.fault("most \u00e9;", 1, 5);
        Check.fault("door;", 1, 0);
        Check.fault(";", 1, 0);
        Check.fault("5;", 1, 0);
        Check.fault("99999;", 1, 0);
        Check.fault("house;;", 1, 6);
        Check.good("house 99 99;");
        Check.good("house0 0;");
        Check.fault("house 100;", 2, 6);
        Check.fault("house 1 100;", 2, 8);
        Check.fault("house 12345;", 2, 6);
        Check.fault("house 1 2 3;", 1, 10);
        Check.fault("house 1 2 12345;", 1, 10);
        Check.fault("house -1;", 1, 6);
        Check.fault("house", 1, 5);
    }

    private static void expressions() {
        Check.good("house says here = 1 or\n here<2 and not after;");
        Check.good("house says 9999;");
        Check.good("house says of 7;");
        Check.fault("house says;", 1, 10);
        Check.fault("house says", 1, 10);
        Check.fault("house says big;", 3, 11);
        Check.fault("house says and;", 3, 11);
        Check.fault("house says z;", 3, 11);
        Check.fault("house says a;", 3, 11);
        Check.fault("house says says;", 3, 11);
        Check.fault("house says 1+not 1;", 3, 13);
        Check.fault("house says 1<not 1;", 3, 13);
        Check.fault("house says not or;", 3, 15);
        Check.fault("house says not;", 1, 14);
        Check.fault("house says +1;", 1, 11);
        Check.fault("house says ?;", 1, 11);
        Check.fault("house says 1 2;", 1, 13);
        Check.fault("house says 1 12345;", 1, 13);
        Check.fault("house says 12a;", 1, 13);
        Check.fault("house says here here;", 1, 16);
        Check.fault("house says 1<2<3;", 1, 14);
        Check.fault("house says 1=2<3;", 1, 14);
        Check.fault("house says (1;", 1, 13);
        Check.fault("house says ();", 1, 12);
        Check.fault("house says 1);", 1, 12);
        Check.fault("house says of;", 1, 13);
        Check.fault("house says of here;", 1, 14);
        Check.fault("house says of big;", 1, 14);
        Check.fault("house says of 8;", 2, 14);
        Check.fault("house says of 00007;", 2, 14);
        Check.fault("house says 10000;", 2, 11);
        Check.fault("house says 12345;", 2, 11);
    }

    private static void bounds() {
        Check.good("house says " + SIX_NOTS + "1;");
        Check.good("house says " + SIX_NOTS + "(" + SIX_NOTS + "1);");
        Check.good("house says " + SIX_NOTS + "1 and " + SIX_NOTS + "1;");
        Check.fault("house says " + SIX_NOTS + "not 1;", 2, 35);
        Check.fault("house says " + SIX_NOTS + "big;", 3, 35);
        Check.good("house says (((((1)))));");
        Check.good("house says (((((1)))))+(((((2)))));");
        Check.fault("house says ((((((1))))));", 2, 17);
        Check.fault("house says ((((((big", 2, 17);
        Check.fault("house says ((((((not 1", 2, 17);
        Check.fault("house says ((((((12345", 2, 17);
        Check.fault("house says (((((((", 2, 17);
        Check.fault("house says (((((()", 1, 17);
        Check.fault("house says ((((((;", 1, 17);
        Check.fault("house says ((((((", 1, 17);
        Check.good("house;".repeat(8));
        Check.fault("house;".repeat(9), 2, 48);
        Check.fault("house;".repeat(8) + "hous;", 1, 48);
        Check.good("unlike;" + "house;".repeat(8) + "most 3;");
    }

    private static void whatAFaultLeaves() {
        RiddleDoors doors = Check.street("most 5;unlike;house 1 2 says here<3;house;");
        doors.become(0, 0, 7);
        doors.letter(0, 2);
        doors.walk(1, 1, 0);
        doors.image();
        Check.due("a fault", Check.tell(doors, "most 3;house;house;house 1 2 says 1"), 1);
        Check.due("its place", doors.fault(), 35);
        Check.due("status 0", doors.count(6), 1);
        int[] counts = {2, 5, 1, 1, 1, 0};
        for (int i = 0; i < counts.length; i++) {
            Check.due("count(" + i + ") behind a fault", doors.count(i), counts[i]);
        }
        Check.same("written behind a fault", Check.written(doors), "most 5;unlike;house 7 2 says here<3;house 0 0;");
        Check.due("the walk is kept", doors.door(-1), 1);
        Check.due("the image is kept", doors.restore(), true);
        Check.due("numberings", doors.numberings(), 4);
    }

    private static void whatAStreetClears() {
        RiddleDoors doors = Check.street("most 5;unlike;house 1 2 says here<3;house;");
        doors.become(0, 0, 7);
        doors.become(0, 0, 100);
        doors.mute(0, true);
        doors.letter(0, 2);
        doors.letter(0, 6);
        doors.walk(1, 1, 0);
        doors.image();
        Check.due("another street", Check.tell(doors, "house says here=1;"), 0);
        int[] counts = {1, 9, 0, 0, 0, 0, 0, 1, 1};
        for (int i = 0; i < counts.length; i++) {
            Check.due("count(" + i + ") behind a street", doors.count(i), counts[i]);
        }
        Check.due("nothing is muted", doors.house(0, 3), 0);
        Check.due("sons", doors.house(0, 0), 0);
        Check.throwsDue("no walk is kept", Check.NSE, () -> doors.door(-1));
        Check.due("no image is kept", doors.restore(), false);
        Check.due("no act is kept", doors.undo(), RiddleDoors.NONE);
        Check.due("no letter is kept", doors.unletter(), RiddleDoors.NONE);
        Check.due("a fault", Check.tell(doors, "x"), 1);
        Check.due("its place", doors.fault(), 0);
        Check.throwsDue("too many bytes", Check.IAE, () -> doors.street(1));
        Check.due("the place stays", doors.fault(), 0);
        Check.due("a street", Check.tell(doors, ""), 0);
        Check.due("no fault", doors.fault(), RiddleDoors.NONE);
    }

    private static void houses() {
        RiddleDoors doors = Check.street("house 12 34 says before+after+here;house 5;house says before*after+of 7;house says most+sons;");
        int[][] whats = {{12, 34, 1, 0, 3}, {5, 0, 0, 0, 0}, {0, 0, 1, 0, 10}, {0, 0, 1, 0, 0}};
        for (int h = 0; h < 4; h++) {
            for (int what = 0; what < 5; what++) {
                Check.due("house(" + h + ", " + what + ")", doors.house(h, what), whats[h][what]);
            }
        }
        doors.mute(2, true);
        Check.due("muted", doors.house(2, 3), 1);
        Check.due("what is muted looks", doors.house(2, 4), 10);
        Check.throwsDue("house(4, 0)", Check.NSE, () -> doors.house(4, 0));
        Check.throwsDue("house(-1, 0)", Check.NSE, () -> doors.house(-1, 0));
        Check.throwsDue("house(0, 5)", Check.NSE, () -> doors.house(0, 5));
        Check.throwsDue("house(0, -1)", Check.NSE, () -> doors.house(0, -1));
    }

    /** The numbers are 4, 5, 6; the riddle is that of house 1, which has 3 sons, 8 debts. */
    private static void worth(String expression, String value) {
        RiddleDoors doors = Check.street("most 7;house;house 3 8 says (" + expression + ")=(" + value + ");house;");
        Check.due(expression + " is " + value, doors.holds(1, 4 + 32 * (5 + 32 * 6)), 1);
    }

    private static void values() {
        worth("1+2*3", "7");
        worth("7-2-1", "4");
        worth("8/2/2", "2");
        worth("2*3/4", "1");
        worth("7/2", "3");
        worth("(0-7)/2", "0-3");
        worth("7/(0-2)", "0-3");
        worth("7/0", "0");
        worth("9999*9999*9999<0", "1");
        worth("2048*1024*1024/(0-1)<0", "1");
        worth("not 5", "0");
        worth("not 0", "1");
        worth("not not 5", "1");
        worth("3 and 2", "1");
        worth("3 and 0", "0");
        worth("0 or 7", "1");
        worth("0 or 0", "0");
        worth("1 or 0 and 0", "1");
        worth("not 1=2", "1");
        worth("not 0 and 0", "0");
        worth("(1<2)+1", "2");
        worth("2<2", "0");
        worth("3=1+2", "1");
        worth("0-1<0", "1");
        worth("(5)", "5");
        worth("0012", "12");
        worth("here", "5");
        worth("before", "4");
        worth("after", "6");
        worth("sons", "3");
        worth("debts", "8");
        worth("most", "7");
        worth("of 0", "4");
        worth("of 2", "6");
        worth("of 3", "0");
        worth("of 7", "0");
        RiddleDoors ends = Check.street("most 3;house says before=0;house says after=0;");
        Check.due("before the first", ends.holds(0, 33), 1);
        Check.due("behind the last", ends.holds(1, 33), 1);
        Check.due("numberings of these", ends.numberings(), 9);
    }

    private static void written() {
        RiddleDoors doors = Check.street(
            "unlike;house 1says not(here=007or of1<2)and  sons ;house 9 9;\nhouse says 1or(2)+\n(3*of 2/debts-0);most 12;");
        String text = "most 12;unlike;house 1 0 says not(here=007 or of 1<2)and sons;house 9 9;"
            + "house 0 0 says 1 or(2)+(3*of 2/debts-0);";
        Check.same("written", Check.written(doors), text);
        doors.become(1, 0, 0);
        doors.become(1, 1, 10);
        doors.mute(0, true);
        Check.same("written now", Check.written(doors), text.replace("9 9", "0 10"));
        Check.throwsDue("written(-2)", Check.NSE, () -> doors.written(-2));
        Check.throwsDue("behind what is written", Check.NSE, () -> doors.written(text.length() + 1));
        RiddleDoors again = Check.street(Check.written(doors));
        Check.same("written again", Check.written(again), Check.written(doors));
        Check.same("nines and noughts", Check.written(Check.street("house says 9or 0and 9<0;")),
            "most 9;house 0 0 says 9 or 0 and 9<0;");
        String longest = "house says 1" + "or1".repeat(162) + ";";
        Check.due("the longest", longest.length(), 499);
        Check.same("the longest written", Check.written(Check.street(longest)),
            "most 9;house 0 0 says 1" + " or 1".repeat(162) + ";");
    }
}
