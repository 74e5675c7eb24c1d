/** Each sentence of the document that names a boundary of promises 19 to 22, 32 and 33: looks, doors, hints, the post. */
public final class EdgesOfLooksTest {
    private static final int SPENT = -2;
    private static final int NONE = RiddleDoors.NONE;
    private static final int MIN = Integer.MIN_VALUE;
    private static final int MAX = Integer.MAX_VALUE;

    public static void main(String[] args) {
        noLooks();
        fewestLooks();
        firstDoor();
        wrongLooks();
        doorsAtOnce();
        leastDoors();
        hints();
        wrongHints();
        fortyNumberings();
        spentAheadOfNone();
        post();
        postWithoutNumberings();
        wrongPlaces();
        left();
        wrongLeft();
        mostThatAreLeft();
        lowestTerms();
        withoutNumberings();
        wrongLook();
        Check.end();
    }

    private static void looking(String text, int fewest, int first, int atOnce) {
        RiddleDoors doors = Check.street(text);
        Check.due("looks(0) of " + text, doors.looks(0), fewest);
        Check.due("looks(1) of " + text, doors.looks(1), first);
        Check.due("doors() of " + text, doors.doors(), atOnce);
    }

    private static void noLooks() {
        Check.says("none, if no LOOK is needed");
        looking("", 0, NONE, 0);
        looking("house says here=9;", 0, NONE, 0);
        looking("most 2;" + "house says here=2;".repeat(8), 0, NONE, 0);
        Check.says("LOOKS: the fewest (what 0; 0 without NUMBERINGS), the first door (1; NONE).");
        looking("house says 0;", 0, NONE, 0);
        looking("most 2;unlike;house;house;house;", 0, NONE, 0);
    }

    private static void fewestLooks() {
        Check.says("the fewest that tell the NUMBERING at worst");
        looking("most 2;house;", 1, 0, 1);
        looking("most 20;house;", 1, 0, 1);
        looking("most 2;house;house;", 2, 0, 3);
        looking("most 2;house;house;house;house;house;", 5, 0, 31);
        looking("most 2;unlike;house;house;", 1, 0, 1);
        looking("most 3;unlike;house;house;house;", 2, 0, 3);
        looking("most 4;unlike;house;house;house;house;", 3, 0, 7);
        // At most one of eight has 2, and of seven of these: each must be looked at.
        looking("most 2;" + "house;".repeat(7) + "house says of 0+of 1+of 2+of 3+of 4+of 5+of 6+here<10;", 8, 0, 255);
        // 1 1 1, 1 1 2, 1 2 1, 2 1 2: by the last one's number the first or the second is the one to look at.
        looking("most 2;house says here=1 or of 2=2;house says here=1 or of 2=1;house;", 2, 2, 7);
        // The first two tell the third, which tells nobody.
        looking("most 6;house says here<3;house says here<4;house says here=of 0+2*of 1-2;", 1, 2, 4);
    }

    private static void firstDoor() {
        Check.says("the first door of such looking (the least HOUSE; ..)");
        looking("most 3;house says here=3;house;house says here=before;", 1, 1, 2);
        looking("most 3;house;house says here=before;house says here=before;", 1, 0, 1);
        looking("most 3;house says here=3;house says here=3;house;", 1, 2, 4);
        // House 0 tells two of three apart, house 1 all.
        looking("most 3;house says here=1 and after<3 or here=2 and after=3;house;", 1, 1, 2);
        looking("most 2;" + "house says here=1;".repeat(7) + "house;", 1, 7, 128);
    }

    private static void wrongLooks() {
        Check.says("NoSuchElementException: another what.");
        String[] texts = {"", "house;", "most 20;house;house;house;", "house says 0;"};
        for (String text : texts) {
            RiddleDoors doors = Check.street(text);
            for (int what : new int[] {-1, 2, MIN, MAX}) {
                Check.throwsDue("looks(" + what + ")", Check.NSE, () -> doors.looks(what));
            }
        }
    }

    private static void doorsAtOnce() {
        Check.says("DOORS AT ONCE: the smallest set of HOUSES whose NUMBERS no two NUMBERINGS have alike");
        // 1 1, 1 2, 2 1, by house 2 told apart alone
        looking("most 3;house says here<3;house says here<3 and here+of 0<4;house says here=before+2*of 0-2;", 1, 2, 4);
        looking("most 2;house;house;house says here=1;", 2, 0, 3);
    }

    private static void leastDoors() {
        Check.says("of as small the least as bits");
        looking("most 2;house says here=1;house;house;house says here=before;", 2, 1, 6);
        looking("most 2;house;house says here=before;house;house says here=before;", 2, 0, 5);
        looking("most 2;house says here=1;house;house says here=before;house;house says here=before;", 2, 1, 10);
    }

    private static void hints() {
        Check.says("HINTS for a NUMBERING: the smallest set of HOUSES whose NUMBERS no other NUMBERING has so; likewise.");
        Check.due("of no houses", new RiddleDoors().hints(0), 0);
        Check.due("of the only one", Check.street("house says here=1;house says here=2;").hints(0), 0);
        RiddleDoors free = Check.street("most 2;house;house;");
        for (int i = 0; i < 4; i++) {
            Check.due("hints(" + i + ") of two free ones", free.hints(i), 3);
        }
        // 1 1 1, 1 1 2, 1 2 1, 2 1 1
        RiddleDoors one = Check.street("most 2;house;house;house says here+before+of 0<5;");
        int[] due = {7, 4, 2, 1};
        for (int i = 0; i < 4; i++) {
            Check.due("hints(" + i + ") of one of three", one.hints(i), due[i]);
        }
        // 1 1, 1 2, 2 2: the second is told by both, each of the others by one
        RiddleDoors two = Check.street("most 2;house;house says not here<before;");
        Check.due("1 1", two.hints(0), 2);
        Check.due("1 2", two.hints(1), 3);
        Check.due("2 2", two.hints(2), 1);
        // the least of two that tell it
        RiddleDoors alike = Check.street("most 2;house says here=1;house;house says here=before;");
        Check.due("by the second, not the third", alike.hints(1), 2);
    }

    private static void wrongHints() {
        Check.says("NoSuchElementException: there is none");
        RiddleDoors doors = Check.street("most 3;house;");
        Check.due("the last", doors.hints(2), 1);
        for (int i : new int[] {-1, 3, MIN, MAX}) {
            Check.throwsDue("hints(" + i + ")", Check.NSE, () -> doors.hints(i));
        }
        RiddleDoors none = Check.street("most 3;house says 0;");
        Check.throwsDue("hints(0) without numberings", Check.NSE, () -> none.hints(0));
        Check.throwsDue("hints(1) of no houses", Check.NSE, () -> new RiddleDoors().hints(1));
    }

    private static void fortyNumberings() {
        Check.says("Each is SPENT, if there are more than 40 NUMBERINGS.");
        RiddleDoors forty = Check.street("most 20;house;house says here<3;");
        Check.due("numberings", forty.numberings(), 40);
        Check.due("looks(0)", forty.looks(0), 2);
        Check.due("looks(1)", forty.looks(1), 0);
        Check.due("doors", forty.doors(), 3);
        for (int i = 0; i < 40; i++) {
            Check.due("hints(" + i + ")", forty.hints(i), 3);
        }
        RiddleDoors more = Check.street("most 20;house;house says here<3 or here=3 and before=20;");
        Check.due("numberings", more.numberings(), 41);
        Check.due("looks(0)", more.looks(0), SPENT);
        Check.due("looks(1)", more.looks(1), SPENT);
        Check.due("doors", more.doors(), SPENT);
        Check.due("hints(0)", more.hints(0), SPENT);
        more.letter(1, 3);
        Check.due("looks(0) with a letter", more.looks(0), 0);
        Check.due("left with 41 and more", Check.street("most 10;house;house;house;").left(0, 10), 100);
    }

    private static void spentAheadOfNone() {
        Check.says("(SPENT by more than 40 NUMBERINGS ahead of that)");
        RiddleDoors more = Check.street("most 7;house;house;");
        RiddleDoors spent = Check.street("most 11;house;house;house;");
        for (int i : new int[] {-1, 48, 49, 40, MIN, MAX}) {
            Check.due("hints(" + i + ") of 49", more.hints(i), SPENT);
            Check.due("hints(" + i + ") of 1331", spent.hints(i), SPENT);
        }
    }

    private static void post() {
        Check.says("the shortest way along the street to all NUMBERS that it may have (a step from each to the next; it needn't come back)");
        RiddleDoors doors = Check.street("most 20;house says here=1 or here=20;house says here=10;house says here=4 or here=8;house;");
        Check.due("from the one end to the other", doors.post(0, 1), 19);
        Check.due("from the other", doors.post(0, 20), 19);
        Check.due("from the middle, nearer to the one", doors.post(0, 10), 9 + 19);
        Check.due("from the middle, nearer to the other", doors.post(0, 11), 9 + 19);
        Check.due("there already", doors.post(1, 10), 0);
        Check.due("one step", doors.post(1, 11), 1);
        Check.due("from 1 to 10", doors.post(1, 1), 9);
        Check.due("between two, as far", doors.post(2, 6), 2 + 4);
        Check.due("between two, nearer to the one", doors.post(2, 5), 1 + 4);
        Check.due("between two, nearer to the other", doors.post(2, 7), 1 + 4);
        Check.due("below two", doors.post(2, 1), 7);
        Check.due("above two", doors.post(2, 20), 16);
        Check.due("all, from 1", doors.post(3, 1), 19);
        Check.due("all, from 20", doors.post(3, 20), 19);
        Check.due("all, from 19", doors.post(3, 19), 20);
    }

    private static void postWithoutNumberings() {
        Check.says("THE POST: how many steps (0 without NUMBERINGS).");
        RiddleDoors none = Check.street("most 5;house;house says 0;");
        Check.due("from 1", none.post(0, 1), 0);
        Check.due("from 5", none.post(1, 5), 0);
        Check.throwsDue("from 6", Check.IAE, () -> none.post(0, 6));
    }

    private static void wrongPlaces() {
        Check.says("IllegalArgumentException (behind NoSuchElementException): the place.");
        RiddleDoors doors = Check.street("most 5;house;house;");
        Check.due("place 1", doors.post(0, 1), 4);
        Check.due("place 5", doors.post(1, 5), 4);
        for (int place : new int[] {0, 6, -1, MIN, MAX}) {
            Check.throwsDue("post(0, " + place + ")", Check.IAE, () -> doors.post(0, place));
            Check.throwsDue("post(2, " + place + ")", Check.NSE, () -> doors.post(2, place));
            Check.throwsDue("post(-1, " + place + ")", Check.NSE, () -> doors.post(-1, place));
        }
        for (int house : new int[] {-1, 2, MIN, MAX}) {
            Check.throwsDue("post(" + house + ", 1)", Check.NSE, () -> doors.post(house, 1));
        }
        RiddleDoors twenty = Check.street("most 20;house says here=20;");
        Check.due("place 20", twenty.post(0, 20), 0);
        Check.throwsDue("place 21", Check.IAE, () -> twenty.post(0, 21));
    }

    private static void left() {
        Check.says("A LOOK: NUMBERINGS that are left by a NUMBER (0: it isn't one of its).");
        RiddleDoors doors = Check.street("most 4;house;house says here<before;");
        int[] first = {0, 1, 2, 3};
        int[] second = {3, 2, 1, 0};
        for (int number = 1; number <= 4; number++) {
            Check.due("left(0, " + number + ")", doors.left(0, number), first[number - 1]);
            Check.due("left(1, " + number + ")", doors.left(1, number), second[number - 1]);
        }
        RiddleDoors thousand = Check.street("most 10;house;house;house;house says here=1;");
        Check.due("all", thousand.left(3, 1), 1000);
        Check.due("none", thousand.left(3, 2), 0);
        Check.due("some", thousand.left(0, 1), 100);
        Check.due("without numberings", Check.street("house says 0;").left(0, 1), 0);
        RiddleDoors fewer = Check.street("most 3;house;");
        Check.due("2 of three", fewer.left(0, 2), 1);
        fewer.letter(0, 1);
        Check.due("1 of one", fewer.left(0, 1), 1);
        Check.due("2 of one", fewer.left(0, 2), 0);
        look(fewer, 0, 1, 1, 1);
    }

    private static void wrongLeft() {
        Check.says("NoSuchElementException: no such HOUSE. IllegalArgumentException (behind that): not 1 to MOST.");
        RiddleDoors doors = Check.street("most 4;house;");
        Check.due("1", doors.left(0, 1), 1);
        Check.due("4", doors.left(0, 4), 1);
        for (int number : new int[] {0, 5, -1, MIN, MAX}) {
            Check.throwsDue("left(0, " + number + ")", Check.IAE, () -> doors.left(0, number));
            Check.throwsDue("left(1, " + number + ")", Check.NSE, () -> doors.left(1, number));
        }
        for (int house : new int[] {-1, 1, MIN, MAX}) {
            Check.throwsDue("left(" + house + ", 1)", Check.NSE, () -> doors.left(house, 1));
        }
    }

    private static void look(RiddleDoors doors, int house, int most, int upper, int lower) {
        Check.due("look(" + house + ", 0)", doors.look(house, 0), most);
        Check.due("look(" + house + ", 1)", doors.look(house, 1), upper);
        Check.due("look(" + house + ", 2)", doors.look(house, 2), lower);
    }

    private static void mostThatAreLeft() {
        Check.says("the most that are left by one of its NUMBERS");
        RiddleDoors doors = Check.street("most 4;house;house says here<before;");
        look(doors, 0, 3, 7, 3);
        look(doors, 1, 3, 7, 3);
        look(Check.street("most 20;house;"), 0, 1, 1, 1);
        look(Check.street("most 20;house says here=20;house says here=1;"), 1, 1, 1, 1);
        RiddleDoors thousand = Check.street("most 10;house;house;house;house says here=10;");
        look(thousand, 3, 1000, 1000, 1);
        look(thousand, 0, 100, 100, 1);
    }

    private static void lowestTerms() {
        Check.says("the squares of these, of all its NUMBERS, together, by all NUMBERINGS, as a fraction in lowest terms");
        // 1 and 2 are left of 3: 5 by 3
        look(Check.street("most 2;house;house says here=1 or before=2;"), 0, 2, 5, 3);
        // 2 and 2 of 4: 8 by 4
        look(Check.street("most 2;house;house;"), 0, 2, 2, 1);
        // 3 and 1 of 4: 10 by 4
        look(Check.street("most 4;house says here<3;house says here=1 or of 0=1 and here<4;"), 0, 3, 5, 2);
        // 1, 2, 3, 4, 5, 6 of 21: 91 by 21
        look(Check.street("most 6;house;house says not before<here;"), 0, 6, 13, 3);
        // 400, 400, 199 and 1 of 1000: 359602 by 1000
        look(Check.street("most 20;house;house;house says (of 0-1)*400+(of 1-1)*20+here<1000 and here<21 or of 0*of 1*here=20*20*20;"),
            0, 400, 179801, 500);
    }

    private static void withoutNumberings() {
        Check.says("(0 by 1 without NUMBERINGS)");
        look(Check.street("house says 0;"), 0, 0, 0, 1);
        RiddleDoors doors = Check.street("most 3;house;");
        doors.letter(0, 1);
        doors.letter(0, 2);
        look(doors, 0, 0, 0, 1);
    }

    private static void wrongLook() {
        Check.says("NoSuchElementException: also another what.");
        RiddleDoors doors = Check.street("most 3;house;");
        for (int wrong : new int[] {-1, 3, MIN, MAX}) {
            Check.throwsDue("look(0, " + wrong + ")", Check.NSE, () -> doors.look(0, wrong));
            Check.throwsDue("look(" + wrong + ", 0)", Check.NSE, () -> doors.look(wrong, 0));
        }
        Check.throwsDue("look(1, 0)", Check.NSE, () -> doors.look(1, 0));
    }
}
