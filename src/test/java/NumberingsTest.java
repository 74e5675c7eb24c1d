/** Promises 12 to 18, 25: numberings, tries, what holds, knots, liars, proofs. */
public final class NumberingsTest {
    private static final int SPENT = -2;

    public static void main(String[] args) {
        tries();
        whereItIsSpent();
        numbers();
        rows();
        knots();
        liars();
        proofs();
        Check.end();
    }

    private static void found(String text, int numberings, int tries) {
        RiddleDoors doors = Check.street(text);
        Check.due("numberings of " + text, doors.numberings(), numberings);
        Check.due("tries of " + text, doors.tries(), tries);
    }

    private static void tries() {
        found("", 1, 0);
        found("most 3;house;", 3, 3);
        found("house;", 9, 9);
        found("most 3;unlike;house;house;", 6, 12);
        found("most 2;unlike;house;house;house;", 0, 10);
        found("most 3;house;house says of 0=2;house;", 9, 15);
        found("most 3;house;house says sons;house;", 0, 12);
        found("most 3;house says after=1;house;", 3, 12);
        found("most 3;house says of 2;house says of 7;house;", 0, 12);
        found("most 5;house says here=1;house says here=2*before;house;", 5, 15);
        RiddleDoors doors = Check.street("most 3;house;house;");
        doors.letter(0, 2);
        Check.due("tries with a letter", doors.tries(), 6);
        Check.due("numberings with a letter", doors.numberings(), 3);
    }

    private static void whereItIsSpent() {
        found("most 10;house;house;house;", 1000, 1110);
        found("most 11;house;house;house;", SPENT, SPENT);
        found("most 20;house;house;house says here<3 or here=3 and of 1<11;", 1000, 8420);
        found("most 20;house;house;house says here<3 or here=3 and of 1<11 or here=4 and of 0=1 and of 1=1;", SPENT, SPENT);
        // 20 + 20 * 9 + 20 * 9 * 10 + 20 * 9 * 10 * 10
        String rest = "house says here<11;house says here<11;house says here=1;";
        found("most 20;house says here<10;" + rest, 900, 20000);
        found("most 20;house says here<11;" + rest, SPENT, SPENT);
        RiddleDoors spent = Check.street("most 20;house says here<11;" + rest);
        Check.throwsDue("number where it is spent", Check.NSE, () -> spent.number(0, 0));
        Check.due("may where it is spent", spent.may(0), SPENT);
        Check.due("post where it is spent", spent.post(0, 1), SPENT);
        Check.due("left where it is spent", spent.left(0, 1), SPENT);
        Check.due("look where it is spent", spent.look(0, 0), SPENT);
        Check.due("looks where it is spent", spent.looks(1), SPENT);
        Check.due("doors where it is spent", spent.doors(), SPENT);
        Check.due("hints where it is spent, ahead of there is none", spent.hints(-1), SPENT);
        Check.due("walk where it is spent", spent.walk(0, 1, 0), SPENT);
        Check.due("changed where it is spent", spent.changed(0, 0, 1, 0), SPENT);
        Check.due("a knot needs but one", spent.knot(), RiddleDoors.NONE);
    }

    private static void numbers() {
        RiddleDoors doors = Check.street("most 4;house;house says here=5-before;house says here<2;");
        int[][] due = {{1, 4, 1}, {2, 3, 1}, {3, 2, 1}, {4, 1, 1}};
        for (int i = 0; i < 4; i++) {
            for (int h = 0; h < 3; h++) {
                Check.due("number(" + i + ", " + h + ")", doors.number(i, h), due[i][h]);
            }
        }
        Check.throwsDue("number(4, 0)", Check.NSE, () -> doors.number(4, 0));
        Check.throwsDue("number(-1, 0)", Check.NSE, () -> doors.number(-1, 0));
        Check.throwsDue("number(0, 3)", Check.NSE, () -> doors.number(0, 3));
        Check.throwsDue("number(0, -1)", Check.NSE, () -> doors.number(0, -1));
        Check.due("may(0)", doors.may(0), 30);
        Check.due("may(2)", doors.may(2), 2);
        Check.throwsDue("may(3)", Check.NSE, () -> doors.may(3));
        doors.letter(0, 3);
        Check.due("may(1) with a letter", doors.may(1), 4);
        doors.letter(1, 1);
        Check.due("may(1) of none", doors.may(1), 0);
        RiddleDoors big = Check.street("most 20;" + "house says here=20;".repeat(8));
        Check.due("number(0, 7)", big.number(0, 7), 20);
        Check.due("may(7)", big.may(7), 1 << 20);
        Check.due("tries of these", big.tries(), 160);
    }

    private static void rows() {
        RiddleDoors doors = Check.street("most 4;unlike;house says here=after;house;");
        doors.letter(0, 1);
        Check.due("letters and unlike are not asked", doors.holds(0, 2 + 32 * 2), 1);
        Check.due("it doesn't hold", doors.holds(0, 2 + 32 * 3), 0);
        Check.due("it has none", doors.holds(1, 1 + 32), RiddleDoors.NONE);
        Check.due("figures of no house", doors.holds(0, 2 + 32 * (2 + 32L * 31)), 1);
        Check.throwsDue("a figure 0", Check.IAE, () -> doors.holds(0, 2));
        Check.throwsDue("a figure 5", Check.IAE, () -> doors.holds(0, 5 + 32));
        Check.throwsDue("below 0", Check.IAE, () -> doors.holds(0, Long.MIN_VALUE + 33));
        Check.throwsDue("a bad row for one that has none", Check.IAE, () -> doors.holds(1, 0));
        Check.throwsDue("no such house, ahead of the row", Check.NSE, () -> doors.holds(2, -1));
        Check.throwsDue("no such house below", Check.NSE, () -> doors.holds(-1, 33));
        RiddleDoors eight = Check.street("most 20;" + "house;".repeat(7) + "house says here=20 and of 0=1;");
        long row = 20;
        for (int h = 0; h < 7; h++) {
            row = 32 * row + 1;
        }
        Check.due("eight figures", eight.holds(7, 20L << 35 | row & (1L << 35) - 1), 1);
    }

    private static void knot(String text, int knot) {
        Check.due("knot of " + text, Check.street(text).knot(), knot);
    }

    private static void knots() {
        knot("", RiddleDoors.NONE);
        knot("house;house;", RiddleDoors.NONE);
        knot("most 3;unlike;house;house;house;house;", 0);
        knot("house;house says here=0;house says here=0;", 2);
        knot("house says here=1;house says of 0=2;house says of 0=3;", 3);
        knot("house says here<after;house says here<after;house says here<of 0;house says here=of 1;", 7);
        knot("house says here<after;house says here<after;house says here<of 0;house says here=of 2;", 7);
        knot("house says here<after;house says here<after;house says here<of 0;house says here<of 2;", 7);
        knot("most 20;house;house;house;house says 0;", SPENT);
        knot("most 20;house says 0;house;house;house;", 1);
        knot("most 7;unlike;" + "house;".repeat(8), SPENT);
        // 8421 tries by a, 421 by b, 21 by c, 1 by d (all less 1), and 4 for the numbering a b c d: 20000, and 20001
        knot("most 20;house;house;house;house says of 0=3 and of 1=8 and of 2=10 and here=19;", RiddleDoors.NONE);
        knot("most 20;house;house;house;house says of 0=3 and of 1=8 and of 2=10 and here=20;", SPENT);
        knot("most 20;house;house;house;house says of 0=1 and of 1=1 and of 2=1 and here=1;", RiddleDoors.NONE);
        RiddleDoors doors = Check.street("most 5;house says here=1;house says here=0;");
        Check.due("knot", doors.knot(), 2);
        doors.mute(1, true);
        Check.due("knot without the muted one", doors.knot(), RiddleDoors.NONE);
        doors.letter(0, 2);
        Check.due("no numberings by the letter", doors.numberings(), 0);
        Check.due("knot without letters", doors.knot(), RiddleDoors.NONE);
    }

    private static void liars() {
        Check.due("liars of none", Check.street("").liars(), 0);
        Check.due("nobody need be", Check.street("house says here=1;").liars(), 0);
        Check.due("none", Check.street("house says here<3;").liars(), RiddleDoors.NONE);
        Check.due("the least", Check.street("most 3;house says here=1;house says here=3 and of 0=2;house says here=1;").liars(),
            1);
        RiddleDoors doors = Check.street("most 2;house says here=1;house says of 0=2;");
        Check.due("none without a letter", doors.liars(), RiddleDoors.NONE);
        doors.letter(1, 1);
        Check.due("one with a letter", doors.liars(), 1);
        doors.mute(0, true);
        Check.due("nobody, if it is muted", doors.liars(), 0);
        Check.due("two", Check.street("most 3;house says here=1;house says of 0=2;house says of 0=3 and before=1 and here=1;").liars(),
            3);
        Check.due("spent", Check.street("most 20;house;house;house;house says here=1 and of 0=0;").liars(), SPENT);
        Check.due("a second numbering ends it",
            Check.street("most 20;house;house;house;house says of 0=1 and of 1=1 and of 2=1 and here<3;").liars(),
            RiddleDoors.NONE);
        Check.due("two found ahead of that", Check.street("most 20;house;house;house;house;").liars(), RiddleDoors.NONE);
    }

    private static void proofs() {
        RiddleDoors doors = Check.street("most 4;house says here<2;house says here=of 0+1;house says here=2 and before=2;house;");
        Check.due("proof(0)", doors.proof(0), 1);
        Check.due("proof(1)", doors.proof(1), 4);
        Check.due("proof(2)", doors.proof(2), 4);
        Check.due("proof(3)", doors.proof(3), RiddleDoors.NONE);
        doors.letter(3, 1);
        Check.due("no proof by a letter", doors.proof(3), RiddleDoors.NONE);
        doors.mute(2, true);
        Check.due("proof(1) without the muted one", doors.proof(1), 3);
        Check.throwsDue("proof(4)", Check.NSE, () -> doors.proof(4));
        Check.throwsDue("proof(-1)", Check.NSE, () -> doors.proof(-1));
        Check.due("no numbering is no proof", Check.street("most 3;house says 0;house says here=2 and before=0;").proof(1),
            RiddleDoors.NONE);
        Check.due("by unlike", Check.street("most 3;unlike;house says here=1;house says here=2;house;").proof(2), 3);
        Check.due("spent by the second question",
            Check.street("most 20;house;house;house;house says here=1 and of 2=1;").proof(3), SPENT);
        Check.due("spent by no riddles", Check.street("most 7;unlike;" + "house;".repeat(8)).proof(0), SPENT);
        Check.due("the first numbering ends the first question", Check.street("most 20;house;house;house;"
            + "house says (of 0=1 or of 0=4) and of 1=1 and of 2=1 and here=1;").proof(0), RiddleDoors.NONE);
        // 4 + 16 + .. + 4096 tries of six houses, and 3 of the last one for each 4096: 17748; with 4 of it 21844.
        Check.due("what is barred is no try", Check.street("most 4;" + "house;".repeat(6) + "house says here=1;").proof(6), 64);
    }
}
