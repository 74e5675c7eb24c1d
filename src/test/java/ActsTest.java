/** Promises 7 to 11, 36 and 37: acts, letters, the image. */
public final class ActsTest {
    private static final String STREET = "most 5;house 1 2 says here=sons;house 3 4 says here=debts;house;";

    public static void main(String[] args) {
        becoming();
        muting();
        undoing();
        theLatestThirty();
        letters();
        images();
        Check.end();
    }

    private static void becoming() {
        RiddleDoors doors = Check.street(STREET);
        Check.due("may(0)", doors.may(0), 2);
        Check.due("become sons", doors.become(0, 0, 3), 1);
        Check.due("may(0) then", doors.may(0), 8);
        Check.due("become debts", doors.become(1, 1, 0), 4);
        Check.due("no numberings then", doors.numberings(), 0);
        Check.due("become 99", doors.become(1, 1, 99), 0);
        Check.due("become what they are", doors.become(1, 1, 99), 99);
        Check.due("acts", doors.count(3), 4);
        Check.due("become 100", doors.become(1, 1, 100), RiddleDoors.NONE);
        Check.due("become -1", doors.become(0, 0, -1), RiddleDoors.NONE);
        Check.due("acts are as they were", doors.count(3), 4);
        Check.due("status 1", doors.count(7), 2);
        Check.throwsDue("no such house, ahead of what it is", Check.NSE, () -> doors.become(3, 0, 100));
        Check.throwsDue("no such house below", Check.NSE, () -> doors.become(-1, 0, 1));
        Check.throwsDue("another what, ahead of what it is", Check.NSE, () -> doors.become(0, 2, 100));
        Check.throwsDue("another what below", Check.NSE, () -> doors.become(0, -1, 1));
        Check.due("status 1 is as it was", doors.count(7), 2);
    }

    private static void muting() {
        RiddleDoors doors = Check.street(STREET);
        Check.due("speaks already", doors.mute(0, false), false);
        Check.due("mute", doors.mute(0, true), true);
        Check.due("muted", doors.house(0, 3), 1);
        Check.due("it has its riddle", doors.house(0, 2), 1);
        Check.due("numberings", doors.numberings(), 25);
        Check.due("it holds, if it is asked", doors.holds(0, 1 + 32 * (1 + 32)), 1);
        Check.due("or not", doors.holds(0, 2 + 32 * (1 + 32)), 0);
        Check.due("muted already", doors.mute(0, true), false);
        Check.due("speaks again", doors.mute(0, false), true);
        Check.due("numberings again", doors.numberings(), 5);
        Check.due("no riddle to mute", doors.mute(2, true), false);
        Check.due("no riddle to speak", doors.mute(2, false), false);
        Check.due("status 1", doors.count(7), 4);
        Check.due("acts", doors.count(3), 2);
        Check.throwsDue("no such house", Check.NSE, () -> doors.mute(3, true) ? 1 : 0);
        Check.throwsDue("no such house below", Check.NSE, () -> doors.mute(-1, true) ? 1 : 0);
    }

    private static void undoing() {
        RiddleDoors doors = Check.street(STREET);
        Check.due("nothing to undo", doors.undo(), RiddleDoors.NONE);
        doors.become(0, 0, 4);
        doors.become(0, 0, 5);
        doors.mute(1, true);
        doors.become(1, 1, 5);
        doors.mute(1, false);
        Check.due("undo speaking", doors.undo(), 4);
        Check.due("muted again", doors.house(1, 3), 1);
        Check.due("undo debts", doors.undo(), 3);
        Check.due("debts again", doors.house(1, 1), 4);
        Check.due("undo muting", doors.undo(), 2);
        Check.due("speaks again", doors.house(1, 3), 0);
        Check.due("undo sons", doors.undo(), 1);
        Check.due("sons again", doors.house(0, 0), 4);
        Check.due("undo the first", doors.undo(), 0);
        Check.due("sons as told", doors.house(0, 0), 1);
        Check.due("numberings as told", doors.numberings(), 5);
        Check.due("nothing left", doors.undo(), RiddleDoors.NONE);
        Check.due("that is not refused", doors.count(7), 0);
    }

    private static void theLatestThirty() {
        RiddleDoors doors = Check.street(STREET);
        for (int i = 1; i <= 35; i++) {
            Check.due("become", doors.become(2, i % 2, 20 + i), i < 3 ? 0 : 18 + i);
            Check.due("acts", doors.count(3), Math.min(i, 30));
        }
        for (int i = 29; i >= 0; i--) {
            Check.due("undo", doors.undo(), i);
            Check.due("what there was", doors.house(2, i % 2), 24 + i);
        }
        Check.due("no more", doors.undo(), RiddleDoors.NONE);
        Check.due("sons of the fifth", doors.house(2, 0), 24);
        Check.due("debts of the fifth", doors.house(2, 1), 25);
    }

    private static void letters() {
        RiddleDoors doors = Check.street("most 5;house;house;");
        Check.due("no letter", doors.unletter(), RiddleDoors.NONE);
        Check.due("a letter", doors.letter(0, 5), 1);
        Check.due("numberings", doors.numberings(), 5);
        Check.due("tries", doors.tries(), 10);
        Check.due("the same", doors.letter(0, 5), 2);
        Check.due("numberings as they were", doors.numberings(), 5);
        Check.due("another", doors.letter(0, 4), 3);
        Check.due("no numberings", doors.numberings(), 0);
        Check.due("taken back", doors.unletter(), 2);
        Check.due("numberings again", doors.numberings(), 5);
        Check.due("number 0", doors.letter(0, 0), RiddleDoors.NONE);
        Check.due("number 6", doors.letter(1, 6), RiddleDoors.NONE);
        for (int i = 3; i <= 10; i++) {
            Check.due("letter", doors.letter(1, 1), i);
        }
        Check.due("an eleventh", doors.letter(1, 1), RiddleDoors.NONE);
        Check.due("letters", doors.count(4), 10);
        Check.due("status 2", doors.count(8), 3);
        Check.due("letters are no acts", doors.count(3), 0);
        Check.throwsDue("no such house", Check.NSE, () -> doors.letter(2, 9));
        Check.throwsDue("no such house below", Check.NSE, () -> doors.letter(-1, 1));
        for (int i = 9; i >= 0; i--) {
            Check.due("unletter", doors.unletter(), i);
        }
        Check.due("none left", doors.unletter(), RiddleDoors.NONE);
        Check.due("that is not refused", doors.count(8), 3);
        Check.due("all numberings", doors.numberings(), 25);
    }

    private static void images() {
        RiddleDoors doors = Check.street(STREET);
        doors.become(0, 0, 2);
        doors.mute(1, true);
        doors.letter(2, 3);
        doors.image();
        Check.due("numberings", doors.numberings(), 5);
        doors.undo();
        doors.undo();
        doors.become(2, 1, 77);
        doors.unletter();
        doors.letter(0, 1);
        doors.letter(0, 1);
        doors.letter(0, 99);
        Check.due("other numberings", doors.numberings(), 5);
        for (int times = 0; times < 2; times++) {
            Check.due("restore", doors.restore(), true);
            Check.due("sons", doors.house(0, 0), 2);
            Check.due("muted", doors.house(1, 3), 1);
            Check.due("debts", doors.house(2, 1), 0);
            Check.due("acts", doors.count(3), 2);
            Check.due("letters", doors.count(4), 1);
            Check.due("status stays", doors.count(8), 1);
            Check.due("may(2)", doors.may(2), 8);
            Check.due("undo", doors.undo(), 1);
            Check.due("speaks again", doors.house(1, 3), 0);
            Check.due("undo", doors.undo(), 0);
            Check.due("sons as told", doors.house(0, 0), 1);
        }
        doors.image();
        doors.become(0, 0, 50);
        Check.due("the later image", doors.restore(), true);
        Check.due("has no acts", doors.count(3), 0);
        Check.due("and sons as told", doors.house(0, 0), 1);
        doors.plant(3, 2);
        Check.due("a planted street has no image", doors.restore(), false);
    }
}
