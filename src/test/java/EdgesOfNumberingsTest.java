import java.util.function.ToIntFunction;

/** Each sentence of the document that names a boundary of promises 12 to 15: tries, numberings, what is spent. */
public final class EdgesOfNumberingsTest {
    private static final int SPENT = -2;
    private static final int MIN = Integer.MIN_VALUE;
    private static final int MAX = Integer.MAX_VALUE;
    /** With what stands ahead of it: 20 and 20 * 9 and 20 * 9 * 10 and 20 * 9 * 10 * 10 tries, if house 0 has 9 numbers. */
    private static final String TENS = "house says here<11;house says here<11;";

    public static void main(String[] args) {
        withoutHouses();
        eachTimeOneTry();
        notAsALetterSays();
        oneAheadHasThatNumber();
        asSoonAsAllHaveANumber();
        ifItLooksAtNone();
        mutedOnes();
        moreThanTwentyThousand();
        moreThanAThousand();
        spentEverywhere();
        spentBehindExceptions();
        justOne();
        justOneOfMany();
        order();
        wrongNumbers();
        numbersOfAHouse();
        Check.end();
    }

    private static void found(String text, int numberings, int tries) {
        RiddleDoors doors = Check.street(text);
        Check.due("numberings of " + text, doors.numberings(), numberings);
        Check.due("tries of " + text, doors.tries(), tries);
    }

    private static void withoutHouses() {
        Check.says("(Without HOUSES there is one.)");
        RiddleDoors none = new RiddleDoors();
        Check.due("tries", none.tries(), 0);
        Check.due("numberings", none.numberings(), 1);
        Check.throwsDue("number(0, 0)", Check.NSE, () -> none.number(0, 0));
        Check.throwsDue("may(0)", Check.NSE, () -> none.may(0));
        Check.due("liars", none.liars(), 0);
        Check.due("knot", none.knot(), RiddleDoors.NONE);
        found("most 2;unlike;", 1, 0);
    }

    private static void eachTimeOneTry() {
        Check.says("HOUSE 0, then 1, and so on is given 1, 2 ..; each time it is one TRY");
        found("most 2;house;", 2, 2);
        found("most 20;house;", 20, 20);
        found("most 2;house;house;", 4, 6);
        found("most 2;" + "house;".repeat(8), 256, 510);
        found("most 3;house says here=1;house;", 3, 6);
        found("most 3;house says here=3;house;", 3, 6);
        found("most 3;house says 0;house;", 0, 3);
    }

    private static void notAsALetterSays() {
        Check.says("if it is not as a LETTER of it says");
        RiddleDoors doors = Check.street("most 3;house;house;house;");
        doors.letter(1, 3);
        Check.due("tries", doors.tries(), 3 + 9 + 9);
        Check.due("numberings", doors.numberings(), 9);
        doors.letter(1, 3);
        Check.due("tries, told twice", doors.tries(), 21);
        doors.letter(2, 1);
        Check.due("tries, two houses told", doors.tries(), 21);
        Check.due("numberings, two houses told", doors.numberings(), 3);
        doors.letter(1, 1);
        Check.due("tries, two numbers told", doors.tries(), 12);
        Check.due("numberings, two numbers told", doors.numberings(), 0);
        doors.letter(0, 2);
        Check.due("tries, told of the first", doors.tries(), 6);
    }

    private static void oneAheadHasThatNumber() {
        Check.says("or (UNLIKE) one ahead has that NUMBER");
        found("most 2;unlike;house;", 2, 2);
        found("most 2;unlike;house;house;", 2, 6);
        found("most 2;unlike;house;house;house;", 0, 10);
        found("most 8;unlike;" + "house says here=1;" + "house;".repeat(2), 42, 8 + 8 + 7 * 8);
        found("most 3;unlike;house;house;house;", 6, 3 + 9 + 18);
    }

    private static void asSoonAsAllHaveANumber() {
        Check.says("A RIDDLE can be asked as soon as all HOUSES that it looks at have a NUMBER");
        // asked with house 0, though it is house 2's
        found("most 3;house;house;house says of 0=1;", 9, 3 + 3 + 9);
        // asked with house 1
        found("most 3;house;house;house says before=1;", 9, 3 + 9 + 9);
        // asked with house 2
        found("most 3;house says of 2=1;house;house;", 9, 3 + 9 + 27);
        found("most 3;house says here=1 and of 2<4;house;house;", 9, 3 + 9 + 27);
        found("most 3;house;house says before=1;house says 1;", 9, 3 + 3 + 9);
        found("most 3;house;house says after=1 or here=9;house;", 9, 3 + 9 + 27);
        // two asked with one
        found("most 3;house says here=1;house says of 0=2;house;", 0, 3);
        // houses that there aren't are not waited for
        found("most 3;house says of 7+here=1;house;", 3, 3 + 3);
        found("most 3;house;house says after+of 0=1;", 3, 3 + 3);
        found("most 3;house says before+here=1;house;", 3, 3 + 3);
    }

    private static void ifItLooksAtNone() {
        Check.says("if it looks at none, with its own");
        found("most 3;house says 0;house;house;", 0, 3);
        found("most 3;house;house says sons;house;", 0, 3 + 9);
        found("most 3;house;house;house says of 7;", 0, 3 + 9 + 27);
        found("most 3;house says of 3;house;house;", 0, 3);
        found("most 3;house;house 1 says sons;", 9, 3 + 9);
        found("most 3;house;house;house says after;", 0, 3 + 9 + 27);
        found("most 3;house says before;house;house;", 0, 3);
    }

    private static void mutedOnes() {
        Check.says("so that all RIDDLES that are there, and not MUTED, hold, and all LETTERS");
        RiddleDoors doors = Check.street("most 3;house says 0;house says here=before;");
        Check.due("numberings", doors.numberings(), 0);
        doors.mute(0, true);
        Check.due("numberings without the first", doors.numberings(), 3);
        Check.due("tries", doors.tries(), 12);
        doors.mute(1, true);
        Check.due("numberings without both", doors.numberings(), 9);
        doors.letter(1, 2);
        Check.due("numberings with a letter", doors.numberings(), 3);
        doors.mute(0, false);
        Check.due("numberings with the first", doors.numberings(), 0);
        Check.due("tries", doors.tries(), 3);
    }

    private static void moreThanTwentyThousand() {
        Check.says("SPENT: there would be more than 20000 TRIES.");
        found("most 20;house says here<10;" + TENS + "house says here=1;", 900, 20000);
        found("most 20;house says here<10;" + TENS + "house says here=0;", 0, 20000);
        found("most 20;house says here<10;" + TENS + "house says of 0*of 1*of 2*here=19*19;", 0, 20000);
        found("most 20;house says here<10;house says here<11;house says here<11 or of 0=1 and of 1=1 and here=11;house says here=0;",
            SPENT, SPENT);
        found("most 20;house says here<11;" + TENS + "house says here=0;", SPENT, SPENT);
        // 12 * 1667: the first that is more and can be
        String index = "(of 0-1)*144+(of 1-1)*12+here";
        found("most 12;house;house;house says " + index + "<1511;house says here=0;", SPENT, SPENT);
        found("most 12;house;house;house says " + index + "<1510;house says here=0;", 0, 12 * (1 + 12 + 144 + 1509));
        found("most 20;house;house;house;house says 0;", SPENT, SPENT);
    }

    private static void moreThanAThousand() {
        Check.says("NUMBERINGS are in the order in which they are found; more than 1000: SPENT, too.");
        found("most 10;house;house;house;", 1000, 1110);
        String index = "(of 0-1)*400+(of 1-1)*20+here";
        found("most 20;house;house;house says " + index + "<1000;", 999, 8420);
        found("most 20;house;house;house says " + index + "<1001;", 1000, 8420);
        found("most 20;house;house;house says " + index + "<1002;", SPENT, SPENT);
        found("most 20;house;house;house says 7000<" + index + ";", 1000, 8420);
        found("most 20;house;house;house says 6999<" + index + ";", SPENT, SPENT);
        found("most 11;house;house;house;", SPENT, SPENT);
        RiddleDoors thousand = Check.street("most 10;house;house;house;");
        Check.due("the last numbering", thousand.number(999, 0), 10);
        Check.due("the last but one", thousand.number(998, 2), 9);
        Check.throwsDue("behind it", Check.NSE, () -> thousand.number(1000, 0));
    }

    private static void spentEverywhere() {
        Check.says("-2: SPENT (as everywhere)");
        String[] spents = {"most 11;house;house;house;", "most 20;house;house;house;house says here=1 and of 0=0;"};
        for (String text : spents) {
            RiddleDoors asked = Check.street(text);
            Check.due("numberings", asked.numberings(), SPENT);
            spentFor("numberings", text, asked, d -> d.numberings());
            spentFor("tries", text, asked, d -> d.tries());
            spentFor("may", text, asked, d -> d.may(2));
            spentFor("looks(0)", text, asked, d -> d.looks(0));
            spentFor("looks(1)", text, asked, d -> d.looks(1));
            spentFor("doors", text, asked, d -> d.doors());
            spentFor("hints(0)", text, asked, d -> d.hints(0));
            spentFor("post", text, asked, d -> d.post(0, 1));
            spentFor("feud", text, asked, d -> d.feud(0, 1, 0));
            spentFor("feud, the first", text, asked, d -> d.feud(0, 1, 1));
            spentFor("changed", text, asked, d -> d.changed(0, 0, 1, 0));
            spentFor("changed, how far", text, asked, d -> d.changed(0, 0, 1, 1));
            spentFor("walk", text, asked, d -> d.walk(1, 1, 0));
            spentFor("walk of none", text, asked, d -> d.walk(0, 1, 0));
            spentFor("left", text, asked, d -> d.left(0, 1));
            for (int what = 0; what < 3; what++) {
                int one = what;
                spentFor("look", text, asked, d -> d.look(0, one));
            }
            for (int i : new int[] {-1, 0, 1, 999, 1000, MIN, MAX}) {
                Check.throwsDue("number(" + i + ", 0)", Check.NSE, () -> asked.number(i, 0));
                Check.throwsDue("number(" + i + ", 0), first of all", Check.NSE, () -> Check.street(text).number(i, 0));
            }
        }
    }

    /** Asked of one of which others were asked ahead, and of a new one; the latter also behind a street that was not spent. */
    private static void spentFor(String call, String text, RiddleDoors asked, ToIntFunction<RiddleDoors> question) {
        Check.due(call, question.applyAsInt(asked), SPENT);
        Check.due(call + ", first of all", question.applyAsInt(Check.street(text)), SPENT);
        RiddleDoors other = Check.street("house says here=1;house;");
        Check.due("nine", other.numberings(), 9);
        Check.due("street", Check.tell(other, text), 0);
        Check.due(call + ", behind another street", question.applyAsInt(other), SPENT);
        Check.due("street", Check.tell(other, "most 3;house says here=1;house;house says here=1;"), 0);
        Check.due(call + ", of one that is not", question.applyAsInt(other) == SPENT, false);
    }

    private static void spentBehindExceptions() {
        Check.says("NoSuchElementException: .., IllegalArgumentException: ..");
        RiddleDoors doors = Check.street("most 11;house;house;house;");
        Check.throwsDue("may(3)", Check.NSE, () -> doors.may(3));
        Check.throwsDue("looks(2)", Check.NSE, () -> doors.looks(2));
        Check.throwsDue("post(3, 1)", Check.NSE, () -> doors.post(3, 1));
        Check.throwsDue("post(0, 12)", Check.IAE, () -> doors.post(0, 12));
        Check.throwsDue("feud(0, 1, 2)", Check.NSE, () -> doors.feud(0, 1, 2));
        Check.throwsDue("feud(1, 1, 0)", Check.IAE, () -> doors.feud(1, 1, 0));
        Check.throwsDue("changed(0, 2, 0, 0)", Check.NSE, () -> doors.changed(0, 2, 0, 0));
        Check.throwsDue("changed(0, 0, 100, 0)", Check.IAE, () -> doors.changed(0, 0, 100, 0));
        Check.throwsDue("walk(8, 1, 0)", Check.IAE, () -> doors.walk(8, 1, 0));
        Check.throwsDue("left(3, 1)", Check.NSE, () -> doors.left(3, 1));
        Check.throwsDue("left(0, 12)", Check.IAE, () -> doors.left(0, 12));
        Check.throwsDue("look(0, 3)", Check.NSE, () -> doors.look(0, 3));
    }

    /** Whether there is just one, as years() asks it: 1, 0, or spent. */
    private static void one(String text, int due) {
        RiddleDoors doors = Check.street(text);
        Check.due("just one of " + text, doors.years(1, 1), due);
        Check.due("just one, four times, of " + text, doors.years(77, 4), due == 1 ? 4 : due);
    }

    private static void justOne() {
        Check.says("TRIES end with the first, or the second one that is found (SPENT by more than 20000 ahead of that alone)");
        String first = "(of 0=1 and of 1=1 and of 2=1 and here=1)";
        String free = "most 20;house;house;house;house says " + first;
        // The second one is found with try 20000, and with try 20001.
        one(free + " or of 0=3 and of 1=8 and of 2=10 and here=19;", 0);
        one(free + " or of 0=3 and of 1=8 and of 2=10 and here=20;", SPENT);
        // The only one is found, and all others are tried: 20000 tries, and 20020.
        one("most 20;house says here<10;" + TENS + "house says " + first + ";", 1);
        one("most 20;house says here<10;house says here<11;house says here<11 or of 0=1 and of 1=1 and here=11;house says " + first + ";",
            SPENT);
        one("most 20;house says here<10;" + TENS + "house says here=0;", 0);
        one("most 20;house says here<11;" + TENS + "house says here=0;", SPENT);
        one(free + ";", SPENT);
    }

    private static void justOneOfMany() {
        Check.says("SPENT by more than 20000 ahead of that alone");
        one("most 20;" + "house;".repeat(8), 0);
        one("most 11;house;house;house;", 0);
        one("most 20;" + "house says here=20;".repeat(8), 1);
        one("most 20;" + "house says here=20;".repeat(7) + "house says 18<here;", 0);
    }

    private static void order() {
        Check.says("NUMBERINGS are in the order in which they are found");
        RiddleDoors doors = Check.street("most 3;unlike;house;house;house;");
        int[][] due = {{1, 2, 3}, {1, 3, 2}, {2, 1, 3}, {2, 3, 1}, {3, 1, 2}, {3, 2, 1}};
        for (int i = 0; i < 6; i++) {
            for (int h = 0; h < 3; h++) {
                Check.due("number(" + i + ", " + h + ")", doors.number(i, h), due[i][h]);
            }
        }
    }

    private static void wrongNumbers() {
        Check.says("NoSuchElementException: also there is none, SPENT.");
        RiddleDoors doors = Check.street("most 3;house;");
        Check.due("number(0, 0)", doors.number(0, 0), 1);
        Check.due("number(2, 0)", doors.number(2, 0), 3);
        for (int wrong : new int[] {-1, 3, MIN, MAX}) {
            Check.throwsDue("number(" + wrong + ", 0)", Check.NSE, () -> doors.number(wrong, 0));
            Check.throwsDue("number(0, " + wrong + ")", Check.NSE, () -> doors.number(0, wrong));
            Check.throwsDue("may(" + wrong + ")", Check.NSE, () -> doors.may(wrong));
        }
        Check.throwsDue("number(0, 1)", Check.NSE, () -> doors.number(0, 1));
        Check.throwsDue("may(1)", Check.NSE, () -> doors.may(1));
        RiddleDoors none = Check.street("most 3;house says 0;");
        Check.throwsDue("number(0, 0) without numberings", Check.NSE, () -> none.number(0, 0));
        doors.letter(0, 2);
        Check.throwsDue("number(1, 0) behind a letter", Check.NSE, () -> doors.number(1, 0));
    }

    private static void numbersOfAHouse() {
        Check.says("A HOUSE's NUMBERS: those that it has in some NUMBERING");
        Check.due("1 of 2", Check.street("most 2;house says here=1;").may(0), 2);
        Check.due("20 of 20", Check.street("most 20;house says here=20;").may(0), 1 << 20);
        Check.due("all of 20", Check.street("most 20;house;").may(0), (1 << 21) - 2);
        Check.due("none", Check.street("most 20;house;house says 0;").may(0), 0);
        RiddleDoors thousand = Check.street("most 10;house;house;house;");
        Check.due("all of a thousand", thousand.may(2), (1 << 11) - 2);
    }
}
