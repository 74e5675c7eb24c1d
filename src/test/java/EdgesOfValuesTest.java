/** Each sentence of the document that names a boundary of what a riddle is worth, and of promises 6, 16 and 31. */
public final class EdgesOfValuesTest {
    private static final int MIN = Integer.MIN_VALUE;
    private static final int MAX = Integer.MAX_VALUE;

    public static void main(String[] args) {
        wraps();
        divides();
        tests();
        whatIsntNought();
        fromTheLeft();
        valuesOfAHouse();
        housesThatThereArent();
        onceAllIsTold();
        looksOfAHouse();
        wrongHouses();
        rows();
        noRiddle();
        wrongRows();
        written();
        digitForDigit();
        writtenBytes();
        Check.end();
    }

    /** Any int, in the language. */
    private static String told(int v) {
        long n = Math.abs((long) v);
        String parts = n / 1000000 + "*1000*1000" + (v < 0 ? "-" : "+") + n / 1000 % 1000 + "*1000" + (v < 0 ? "-" : "+") + n % 1000;
        return v < 0 ? "(0-" + parts + ")" : "(" + parts + ")";
    }

    /** The riddle is that of house 1, which has 3 sons, 8 debts; the numbers are 4, 5, 6. */
    private static void worth(String expression, int value) {
        RiddleDoors doors = Check.street("most 7;house;house 3 8 says (" + expression + ")=" + told(value) + ";house;");
        Check.due(expression + " is " + value, doors.holds(1, 4 + 32 * (5 + 32 * 6)), 1);
    }

    private static void wraps() {
        Check.says("ints that wrap");
        int[] some = {0, 1, -1, 7, -7, 9999, 46341, 65536, MAX, MIN, MAX - 1, MIN + 1, 1 << 30, 123456789, -987654321};
        for (int a : some) {
            for (int b : some) {
                worth(told(a) + "+" + told(b), a + b);
                worth(told(a) + "-" + told(b), a - b);
                worth(told(a) + "*" + told(b), a * b);
                worth(told(a) + "<" + told(b), a < b ? 1 : 0);
                worth(told(a) + "=" + told(b), a == b ? 1 : 0);
                worth(told(a) + "/" + told(b), b == 0 ? 0 : (int) ((long) a / b));
            }
        }
        worth("9999*9999*9999", (int) 999700029999L);
        worth(told(MAX) + "+1", MIN);
        worth(told(MIN) + "-1", MAX);
        worth(told(MIN) + "*(0-1)", MIN);
        worth("8192*8*8192*8", 0);
    }

    private static void divides() {
        Check.says("/ cut down to 0, by 0 gives 0");
        worth("7/2", 3);
        worth("(0-7)/2", -3);
        worth("7/(0-2)", -3);
        worth("(0-7)/(0-2)", 3);
        worth("1/2", 0);
        worth("(0-1)/2", 0);
        worth("0/7", 0);
        worth("7/0", 0);
        worth("0/0", 0);
        worth("(0-7)/0", 0);
        worth(told(MIN) + "/0", 0);
        worth(told(MIN) + "/(0-1)", MIN);
        worth("7/0/0+1", 1);
        worth("5/(here-5)", 0);
    }

    private static void tests() {
        Check.says("tests, not, and, or are 1 or 0");
        worth("(1<2)+(2<2)+(3<2)", 1);
        worth("(2=2)+(2=3)", 1);
        worth(told(MIN) + "<" + told(MAX), 1);
        worth(told(MAX) + "<" + told(MIN), 0);
        worth("(not 5)+(not 0)", 1);
        worth("(7 and 8)+(7 and 0)+(0 and 7)+(0 and 0)", 1);
        worth("(7 or 8)+(7 or 0)+(0 or 7)+(0 or 0)", 3);
        worth("not not 9", 1);
        // without a test, and, or, not an expression is what it is
        worth("((((9))))", 9);
    }

    private static void whatIsntNought() {
        Check.says("what isn't 0 holds");
        worth("2 and 4", 1);
        worth("(0-1) and (0-2)", 1);
        worth("(0-1) or 0", 1);
        worth("not (0-1)", 0);
        worth("not " + told(MIN), 0);
        worth(told(MIN) + " and 1", 1);
        String[] hold = {"1", "2", "0-1", "9999", told(MIN), "2*2", "here", "not 0", "here-6"};
        for (String riddle : hold) {
            Check.due(riddle + " holds", Check.street("house says " + riddle + ";").holds(0, 5), 1);
        }
        String[] never = {"0", "0000", "1-1", "here-5", "1/2", "not 5", "before", "after", "sons", "debts", "of 7", "8192*8*8192*8"};
        for (String riddle : never) {
            Check.due(riddle + " doesn't hold", Check.street("house says " + riddle + ";").holds(0, 5), 0);
        }
        Check.due("a numbering by what is below 0", Check.street("most 3;house says here-2;").may(0), 2 + 8);
    }

    private static void fromTheLeft() {
        Check.says("From the left");
        worth("9-3-2", 4);
        worth("9-3+2", 8);
        worth("100/5/2", 10);
        worth("100/5*2", 40);
        worth("7*3/2", 10);
        worth("7/2*3", 9);
        worth("1+2*3-4/2", 5);
        worth("1 or 1 and 0", 1);
        worth("(1 or 1) and 0", 0);
        worth("0 and 1 or 1", 1);
        worth("0 and (1 or 1)", 0);
        worth("not 1 or 1", 1);
        worth("not (1 or 1)", 0);
        worth("not 0 and 0", 0);
        worth("not (0 and 0)", 1);
        worth("not 1=2", 1);
        worth("(not 1)=2", 0);
        worth("not 1+1", 0);
        worth("1<1+1", 1);
        worth("2*2=4", 1);
        worth("1 or 0=1", 1);
        worth("not not 3=3", 1);
    }

    private static void valuesOfAHouse() {
        Check.says("VALUES: 'here', 'before', 'after' .., 'sons', 'debts' (of this HOUSE), 'most'");
        worth("here", 5);
        worth("before", 4);
        worth("after", 6);
        worth("sons", 3);
        worth("debts", 8);
        worth("most", 7);
        worth("of 0*100+of 1*10+of 2", 456);
        RiddleDoors doors = Check.street("most 20;house 99 0 says here=sons-debts-most*4;house 0 99 says here=debts-sons-most*4;");
        Check.due("the first one's", doors.may(0), 1 << 19);
        Check.due("the second one's", doors.may(1), 1 << 19);
        doors.become(0, 1, 10);
        Check.due("as they are now", doors.may(0), 1 << 9);
    }

    private static void housesThatThereArent() {
        Check.says("of a HOUSE that there isn't (once all is told) it is 0");
        RiddleDoors one = Check.street("house says before=0 and after=0 and of 1=0 and of 7=0 and of 0=here;");
        Check.due("of one house", one.holds(0, 9), 1);
        RiddleDoors eight = Check.street("house says before=0;" + "house;".repeat(6) + "house says after=0;");
        long row = 0;
        for (int h = 0; h < 8; h++) {
            row = row << 5 | 9;
        }
        Check.due("before the first of eight", eight.holds(0, row), 1);
        Check.due("behind the last of eight", eight.holds(7, row), 1);
        Check.due("before the first, whatever else the row has", eight.holds(0, row | 31L << 40), 1);
        Check.due("behind the last, whatever else the row has", eight.holds(7, row | 31L << 40), 1);
        RiddleDoors two = Check.street("house;house says after=0 and of 2=0;");
        Check.due("behind the last of two, whatever else the row has", two.holds(1, 1 + 32 * (1 + 32 * 7)), 1);
    }

    private static void onceAllIsTold() {
        Check.says("of a HOUSE that there isn't (once all is told) it is 0");
        RiddleDoors doors = Check.street("most 3;house says after=2 and of 2=3;house;house;");
        Check.due("houses told behind are looked at", doors.house(0, 4), 6);
        Check.due("the one behind", doors.may(1), 4);
        Check.due("the last one", doors.may(2), 8);
        Check.due("this one", doors.may(0), 14);
    }

    private static void looksOfAHouse() {
        Check.says("4 HOUSES at which it looks (bits; 0 without)");
        RiddleDoors doors = Check.street("house says before;house says of 0+of 1+of 2+of 3+of 4+of 5+of 6+of 7;house;house says sons+debts+most+1;"
            + "house says before*after;house says here-here;house says of 7*0 and 0;house says after;");
        int[] due = {0, 255, 0, 0, 40, 32, 128, 0};
        for (int h = 0; h < 8; h++) {
            Check.due("house(" + h + ", 4)", doors.house(h, 4), due[h]);
        }
        Check.due("muted, it has a riddle and looks", doors.mute(1, true), true);
        Check.due("house(1, 2)", doors.house(1, 2), 1);
        Check.due("house(1, 4)", doors.house(1, 4), 255);
    }

    private static void wrongHouses() {
        Check.says("NoSuchElementException: no such HOUSE (as everywhere), what.");
        RiddleDoors none = new RiddleDoors();
        RiddleDoors two = Check.street("house;house;");
        RiddleDoors eight = Check.street("house;".repeat(8));
        for (int what = 0; what < 5; what++) {
            int asked = what;
            Check.throwsDue("house(0, .) of none", Check.NSE, () -> none.house(0, asked));
            Check.throwsDue("house(-1, .)", Check.NSE, () -> two.house(-1, asked));
            Check.throwsDue("house(2, .) of two", Check.NSE, () -> two.house(2, asked));
            Check.throwsDue("house(8, .) of eight", Check.NSE, () -> eight.house(8, asked));
            Check.throwsDue("house(MIN, .)", Check.NSE, () -> eight.house(MIN, asked));
            Check.throwsDue("house(MAX, .)", Check.NSE, () -> eight.house(MAX, asked));
            Check.due("house(1, .) of two", two.house(1, what), 0);
            Check.due("house(7, .) of eight", eight.house(7, what), 0);
        }
        for (int what : new int[] {-1, 5, MIN, MAX}) {
            Check.throwsDue("house(0, " + what + ")", Check.NSE, () -> two.house(0, what));
        }
    }

    private static void rows() {
        Check.says("figures to the base 32, HOUSE 0's lowest");
        RiddleDoors doors = Check.street("most 20;house says here=1 and after=20 and of 2=2;house;house;");
        Check.due("1, 20, 2", doors.holds(0, 1 + 32 * 20 + 1024 * 2), 1);
        Check.due("2, 20, 1", doors.holds(0, 2 + 32 * 20 + 1024), 0);
        StringBuilder text = new StringBuilder("most 20;" + "house;".repeat(7) + "house says 1");
        long row = 0;
        for (int h = 7; h >= 0; h--) {
            row = row << 5 | 20 - h;
            text.append(" and of ").append(h).append('=').append(20 - h);
        }
        RiddleDoors eight = Check.street(text.append(';').toString());
        Check.due("eight figures", eight.holds(7, row), 1);
        Check.due("all bits above these", eight.holds(7, row | Long.MAX_VALUE << 40 & Long.MAX_VALUE), 1);
        for (int h = 0; h < 8; h++) {
            Check.due("another figure of house " + h, eight.holds(7, row - (1L << 5 * h)), 0);
        }
        Check.says("what holds is not asked of LETTERS, UNLIKE");
        RiddleDoors unlike = Check.street("most 3;unlike;house says here=after;house;");
        unlike.letter(0, 1);
        unlike.letter(0, 2);
        Check.due("alike, and not as letters say", unlike.holds(0, 3 + 32 * 3), 1);
    }

    private static void noRiddle() {
        Check.says("NONE: it has none.");
        RiddleDoors doors = Check.street("most 3;house;house says 0;");
        Check.due("no riddle", doors.holds(0, 33), RiddleDoors.NONE);
        Check.due("a riddle that doesn't hold", doors.holds(1, 33), 0);
        doors.mute(1, true);
        Check.due("a muted one is still one", doors.holds(1, 33), 0);
    }

    private static void wrongRows() {
        Check.says("IllegalArgumentException (behind NoSuchElementException): the row is below 0, some figure of a HOUSE is not 1 to MOST.");
        RiddleDoors doors = Check.street("most 20;house says 1;house says 1;");
        Check.due("1 and 1", doors.holds(0, 33), 1);
        Check.due("20 and 20", doors.holds(0, 20 + 32 * 20), 1);
        long[] never = {0, 1, 32, 21 + 32, 1 + 32 * 21, 31 + 32, 1 + 32 * 31, -1, Long.MIN_VALUE, Long.MIN_VALUE + 33, Long.MAX_VALUE, 1024};
        for (long row : never) {
            Check.throwsDue("holds(0, " + row + ")", Check.IAE, () -> doors.holds(0, row));
            Check.throwsDue("holds(1, " + row + ")", Check.IAE, () -> doors.holds(1, row));
            Check.throwsDue("holds(2, " + row + ")", Check.NSE, () -> doors.holds(2, row));
            Check.throwsDue("holds(-1, " + row + ")", Check.NSE, () -> doors.holds(-1, row));
        }
        Check.throwsDue("no such house, and a good row", Check.NSE, () -> doors.holds(2, 33));
        RiddleDoors without = Check.street("most 20;house;house;");
        Check.throwsDue("a house that has none, and a bad row", Check.IAE, () -> without.holds(0, 1));
        RiddleDoors two = Check.street("most 2;house says here=2;");
        Check.due("2 of 2", two.holds(0, 2), 1);
        Check.throwsDue("3 of 2", Check.IAE, () -> two.holds(0, 3));
        Check.throwsDue("holds(0, 0) of no houses", Check.NSE, () -> new RiddleDoors().holds(0, 0));
    }

    private static void written() {
        Check.says("'most', a blank, MOST, ';'; 'unlike;', if it was told; for each HOUSE 'house', a blank, SONS, a blank, DEBTS");
        Check.same("of none", Check.written(new RiddleDoors()), "most 9;");
        Check.same("of 20, unlike", Check.written(Check.street("unlike;most 20;")), "most 20;unlike;");
        Check.same("of 10", Check.written(Check.street("most 10;house 10 9;house 9 10;")), "most 10;house 10 9;house 9 10;");
        Check.same("of noughts", Check.written(Check.street("most 0002;house 0000 0099;")), "most 2;house 0 99;");
        RiddleDoors doors = Check.street("house 1 2 says sons;");
        doors.become(0, 0, 99);
        doors.become(0, 1, 0);
        doors.mute(0, true);
        Check.same("as they are now", Check.written(doors), "most 9;house 99 0 says sons;");
        doors.undo();
        doors.undo();
        Check.same("as they are then", Check.written(doors), "most 9;house 99 2 says sons;");
        doors.image();
        doors.undo();
        Check.same("as told", Check.written(doors), "most 9;house 1 2 says sons;");
        doors.restore();
        Check.same("as restored", Check.written(doors), "most 9;house 99 2 says sons;");
        doors.years(1, 3);
        doors.changed(0, 0, 3, 0);
        doors.tried(0, 3, 3, 0);
        doors.build(0);
        Check.same("what is only tried is not written", Check.written(doors), "most 9;house 99 2 says sons;");
    }

    private static void digitForDigit() {
        Check.says("a blank between two of them that are words or NUMERALS, nothing else; .. (NUMERALS of a RIDDLE stand digit for digit as told.)");
        String[][] riddles = {
            {"0007", "0007"}, {"0", "0"}, {"not  not\n1", "not not 1"}, {"not(1)", "not(1)"}, {"not ( 1 )", "not(1)"},
            {"1or2and3", "1 or 2 and 3"}, {"of1", "of 1"}, {"of  0001", "of 0001"}, {"1 < 2", "1<2"}, {"1 = of 2", "1=of 2"},
            {"(1)or(2)", "(1)or(2)"}, {"( 1 ) and\n( 2 )", "(1)and(2)"}, {"here + sons", "here+sons"}, {"9and of7", "9 and of 7"},
            {"not here or not 0", "not here or not 0"}, {"1-2*3/4", "1-2*3/4"}};
        for (String[] riddle : riddles) {
            RiddleDoors doors = Check.street("house says " + riddle[0] + " ;");
            Check.same("written of " + riddle[0], Check.written(doors), "most 9;house 0 0 says " + riddle[1] + ";");
            Check.same("written of that", Check.written(Check.street(Check.written(doors))), Check.written(doors));
        }
    }

    private static void writtenBytes() {
        Check.says("The i-th byte of what is WRITTEN; how many there are (i NONE). NoSuchElementException: there is none.");
        RiddleDoors none = new RiddleDoors();
        Check.due("how many", none.written(-1), 7);
        Check.due("the last, first of all", new RiddleDoors().written(6), ';');
        Check.throwsDue("behind it, first of all", Check.NSE, () -> new RiddleDoors().written(7));
        Check.due("the first", none.written(0), 'm');
        Check.due("the last", none.written(6), ';');
        for (int i : new int[] {7, -2, MIN, MAX}) {
            Check.throwsDue("written(" + i + ")", Check.NSE, () -> none.written(i));
        }
        RiddleDoors growing = Check.street("house 9;");
        Check.due("the last", growing.written(16), ';');
        growing.become(0, 0, 10);
        Check.due("the last then", growing.written(17), ';');
        growing.undo();
        Check.throwsDue("behind the last again", Check.NSE, () -> growing.written(17));
        // As much as a text can make of it: a blank on both sides of each word, and all houses.
        String riddle = "1" + "or1".repeat(143);
        RiddleDoors much = Check.street("unlike;" + "house;".repeat(7) + "house says " + riddle + ";most 20;");
        for (int h = 0; h < 8; h++) {
            much.become(h, 0, 99);
            much.become(h, 1, 99);
        }
        String due = "most 20;unlike;" + "house 99 99;".repeat(7) + "house 99 99 says 1" + " or 1".repeat(143) + ";";
        Check.due("how many of much", much.written(-1), due.length());
        Check.same("much", Check.written(much), due);
        Check.throwsDue("behind much", Check.NSE, () -> much.written(due.length()));
    }
}
