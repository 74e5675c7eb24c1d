/** Promises 19 to 22, 32 and 33: looks, doors at once, hints, the post, a look at one door. */
public final class LookingTest {
    private static final int SPENT = -2;

    public static void main(String[] args) {
        free();
        oneOfThree();
        byWhatWasSeen();
        eightDoors();
        fortyAndMore();
        withoutNumberings();
        post();
        oneDoor();
        Check.end();
    }

    private static void looking(RiddleDoors doors, int fewest, int first, int atOnce) {
        Check.due("looks(0)", doors.looks(0), fewest);
        Check.due("looks(1)", doors.looks(1), first);
        Check.due("doors()", doors.doors(), atOnce);
    }

    private static void free() {
        RiddleDoors doors = Check.street("most 3;house;house;");
        looking(doors, 2, 0, 3);
        Check.due("hints(8)", doors.hints(8), 3);
        Check.throwsDue("hints(9)", Check.NSE, () -> doors.hints(9));
        Check.throwsDue("hints(-1)", Check.NSE, () -> doors.hints(-1));
        Check.throwsDue("looks(2)", Check.NSE, () -> doors.looks(2));
        Check.throwsDue("looks(-1)", Check.NSE, () -> doors.looks(-1));
        looking(Check.street("most 3;house says here=1;house;house says here=before;"), 1, 1, 2);
        looking(Check.street(""), 0, RiddleDoors.NONE, 0);
        looking(Check.street("house says here=4;"), 0, RiddleDoors.NONE, 0);
    }

    /** Just one of three has the number 2. */
    private static void oneOfThree() {
        RiddleDoors doors = Check.street("most 2;house;house;house says here+before+of 0=4;");
        looking(doors, 2, 0, 3);
        Check.due("hints(0)", doors.hints(0), 4);
        Check.due("hints(1)", doors.hints(1), 2);
        Check.due("hints(2)", doors.hints(2), 1);
    }

    /** House 2 tells which of the two others is the one to look at: two looks, but all three doors at once. */
    private static void byWhatWasSeen() {
        // 1 1 1, 1 1 2, 1 2 1, 2 1 2
        RiddleDoors two = Check.street("most 2;house says here=1 or of 2=2;house says here=1 or of 2=1;house;");
        Check.due("numberings of two kinds", two.numberings(), 4);
        looking(two, 2, 2, 7);
        Check.due("hints for 1 1 1", two.hints(0), 6);
        Check.due("hints for 1 1 2", two.hints(1), 5);
        Check.due("hints for 1 2 1", two.hints(2), 2);
        Check.due("hints for 2 1 2", two.hints(3), 1);
        two.letter(2, 1);
        looking(two, 1, 1, 2);
    }

    /** Of eight houses at most one has the number 2: each must be looked at but one. */
    private static void eightDoors() {
        RiddleDoors one = Check.street("most 2;" + "house;".repeat(7)
            + "house says of 0+of 1+of 2+of 3+of 4+of 5+of 6+here=9;");
        Check.due("numberings", one.numberings(), 8);
        looking(one, 7, 0, 127);
        Check.due("hints", one.hints(0), 128);
        RiddleDoors none = Check.street("most 2;" + "house;".repeat(7)
            + "house says of 0+of 1+of 2+of 3+of 4+of 5+of 6+here<10;");
        Check.due("numberings with none", none.numberings(), 9);
        looking(none, 8, 0, 255);
        Check.due("hints for none", none.hints(0), 255);
        Check.due("hints for one", none.hints(1), 128);
    }

    private static void fortyAndMore() {
        RiddleDoors forty = Check.street("most 20;house;house says here<3;");
        looking(forty, 2, 0, 3);
        Check.due("hints(39)", forty.hints(39), 3);
        RiddleDoors more = Check.street("most 20;house;house says here<3 or here=3 and of 0=1;");
        Check.due("numberings", more.numberings(), 41);
        looking(more, SPENT, SPENT, SPENT);
        Check.due("hints(0)", more.hints(0), SPENT);
        Check.due("hints of none", more.hints(77), SPENT);
        Check.throwsDue("another what ahead of that", Check.NSE, () -> more.looks(2));
        Check.due("one door can be looked at", more.look(0, 0), 3);
    }

    private static void withoutNumberings() {
        RiddleDoors doors = Check.street("house says 0;house;");
        looking(doors, 0, RiddleDoors.NONE, 0);
        Check.throwsDue("hints(0)", Check.NSE, () -> doors.hints(0));
        Check.due("post", doors.post(0, 5), 0);
        Check.due("left", doors.left(0, 5), 0);
        Check.due("look 0", doors.look(0, 0), 0);
        Check.due("look 1", doors.look(0, 1), 0);
        Check.due("look 2", doors.look(0, 2), 1);
    }

    private static void post() {
        RiddleDoors doors = Check.street("most 20;house says here=3 or here=7 or here=12;house says here=9;");
        Check.due("from within", doors.post(0, 6), 12);
        Check.due("from within, nearer to the end", doors.post(0, 10), 11);
        Check.due("from one of them", doors.post(0, 7), 13);
        Check.due("from below", doors.post(0, 1), 11);
        Check.due("from above", doors.post(0, 20), 17);
        Check.due("from the first", doors.post(0, 3), 9);
        Check.due("there already", doors.post(1, 9), 0);
        Check.due("just one", doors.post(1, 20), 11);
        Check.throwsDue("place 0", Check.IAE, () -> doors.post(0, 0));
        Check.throwsDue("place 21", Check.IAE, () -> doors.post(0, 21));
        Check.throwsDue("no such house, ahead of the place", Check.NSE, () -> doors.post(2, 0));
        Check.throwsDue("no such house below", Check.NSE, () -> doors.post(-1, 1));
    }

    private static void oneDoor() {
        RiddleDoors doors = Check.street("most 4;house;house says here<of 0;house says here=of 1;");
        Check.due("left(0, 1)", doors.left(0, 1), 0);
        Check.due("left(0, 4)", doors.left(0, 4), 3);
        Check.due("left(1, 1)", doors.left(1, 1), 3);
        Check.due("left(1, 4)", doors.left(1, 4), 0);
        // 1, 2, 3 are left: 1 + 4 + 9 by 6
        Check.due("look(0, 0)", doors.look(0, 0), 3);
        Check.due("look(0, 1)", doors.look(0, 1), 7);
        Check.due("look(0, 2)", doors.look(0, 2), 3);
        Check.throwsDue("left(0, 0)", Check.IAE, () -> doors.left(0, 0));
        Check.throwsDue("left(0, 5)", Check.IAE, () -> doors.left(0, 5));
        Check.throwsDue("no such house, ahead of the number", Check.NSE, () -> doors.left(3, 0));
        Check.throwsDue("no such house below", Check.NSE, () -> doors.left(-1, 1));
        Check.throwsDue("look(3, 0)", Check.NSE, () -> doors.look(3, 0));
        Check.throwsDue("look(0, 3)", Check.NSE, () -> doors.look(0, 3));
        Check.throwsDue("look(0, -1)", Check.NSE, () -> doors.look(0, -1));
        RiddleDoors thousand = Check.street("most 10;house;house;house;");
        Check.due("left of a thousand", thousand.left(2, 10), 100);
        Check.due("the average of a thousand", thousand.look(2, 1), 100);
        Check.due("by", thousand.look(2, 2), 1);
        RiddleDoors odd = Check.street("most 5;house says here=2 or of 1=1;house says here<3;");
        Check.due("numberings", odd.numberings(), 6);
        // house 0: 1 has 1, 2 has 2, 3 to 5 have 1 each: 1 + 4 + 3 by 6
        Check.due("upper", odd.look(0, 1), 4);
        Check.due("lower", odd.look(0, 2), 3);
        // house 1: 1 has 5, 2 has 1: 26 by 6
        Check.due("upper of the other", odd.look(1, 1), 13);
        Check.due("lower of the other", odd.look(1, 2), 3);
    }
}
