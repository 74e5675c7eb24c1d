/** Each sentence of the document that names a boundary of promises 5, 7 to 11, 36 and 37: acts, letters, images, status. */
public final class EdgesOfActsTest {
    private static final int MIN = Integer.MIN_VALUE;
    private static final int MAX = Integer.MAX_VALUE;
    private static final String STREET = "most 5;house 1 2 says here=sons;house 3 4 says here=debts;house;";

    public static void main(String[] args) {
        counts();
        whatTheyBecome();
        refusedToBecome();
        wrongBecome();
        mutes();
        wrongMute();
        thirtyActs();
        thirtyOneActs();
        actsOfAllKinds();
        whateverTheyWere();
        lastOneFirst();
        nothingToUndo();
        tenLetters();
        lettersNumbers();
        wrongLetter();
        lastLetter();
        noImage();
        imageOfAll();
        imageInPlaceOfAnother();
        imageThatIsGone();
        status();
        calls();
        Check.end();
    }

    private static void counts() {
        Check.says("NoSuchElementException: another what.");
        RiddleDoors doors = Check.street(STREET);
        for (int what : new int[] {-1, 9, MIN, MAX}) {
            Check.throwsDue("count(" + what + ")", Check.NSE, () -> doors.count(what));
        }
        int[] due = {3, 5, 0, 0, 0, 0, 0, 0, 0};
        for (int what = 0; what < 9; what++) {
            Check.due("count(" + what + ")", doors.count(what), due[what]);
        }
    }

    private static void whatTheyBecome() {
        Check.says("SONS (what 0), DEBTS (1) of a HOUSE become others: what they were.");
        RiddleDoors doors = Check.street(STREET);
        Check.due("sons 99", doors.become(2, 0, 99), 0);
        Check.due("sons 0", doors.become(2, 0, 0), 99);
        Check.due("sons 0 again", doors.become(2, 0, 0), 0);
        Check.due("debts 99", doors.become(2, 1, 99), 0);
        Check.due("debts 0", doors.become(2, 1, 0), 99);
        Check.due("sons of the first", doors.become(0, 0, 5), 1);
        Check.due("debts of the first", doors.become(0, 1, 6), 2);
        Check.due("acts", doors.count(3), 7);
        Check.due("sons", doors.house(0, 0), 5);
        Check.due("debts", doors.house(0, 1), 6);
        Check.due("others' sons are as they were", doors.house(1, 0), 3);
        Check.due("others' debts are as they were", doors.house(1, 1), 4);
        Check.due("its number", doors.may(0), 32);
        RiddleDoors eight = Check.street("house;".repeat(8));
        Check.due("of the eighth", eight.become(7, 1, 99), 0);
        Check.due("that is it", eight.house(7, 1), 99);
        Check.due("undone", eight.undo(), 0);
        Check.due("that was it", eight.house(7, 1), 0);
    }

    private static void refusedToBecome() {
        Check.says("NONE (STATUS 1): not 0 to 99.");
        RiddleDoors doors = Check.street(STREET);
        doors.become(0, 0, 50);
        int refused = 0;
        for (int v : new int[] {-1, 100, MIN, MAX}) {
            for (int what = 0; what < 2; what++) {
                Check.due("become " + v, doors.become(0, what, v), RiddleDoors.NONE);
                refused++;
                Check.due("status 1", doors.count(7), refused);
                Check.due("acts", doors.count(3), 1);
                Check.due("sons", doors.house(0, 0), 50);
                Check.due("debts", doors.house(0, 1), 2);
            }
        }
        Check.due("undo", doors.undo(), 0);
        Check.due("sons as told", doors.house(0, 0), 1);
    }

    private static void wrongBecome() {
        Check.says("NoSuchElementException (ahead): also another what.");
        RiddleDoors doors = Check.street(STREET);
        for (int wrong : new int[] {-1, MIN, MAX}) {
            for (int v : new int[] {5, -1, 100}) {
                Check.throwsDue("no such house", Check.NSE, () -> doors.become(wrong, 0, v));
                Check.throwsDue("another what", Check.NSE, () -> doors.become(0, wrong, v));
                Check.throwsDue("house 3", Check.NSE, () -> doors.become(3, 1, v));
                Check.throwsDue("what 2", Check.NSE, () -> doors.become(0, 2, v));
            }
        }
        Check.throwsDue("of no houses", Check.NSE, () -> new RiddleDoors().become(0, 0, 1));
        Check.due("that is no status", doors.count(7), 0);
        Check.due("nor an act", doors.count(3), 0);
    }

    private static void mutes() {
        Check.says("A RIDDLE is MUTED, or speaks again: true. False (STATUS 1): it has none, it is so already.");
        RiddleDoors doors = Check.street(STREET);
        Check.due("it speaks already", doors.mute(0, false), false);
        Check.due("status 1", doors.count(7), 1);
        Check.due("muted", doors.mute(0, true), true);
        Check.due("it is muted already", doors.mute(0, true), false);
        Check.due("status 1", doors.count(7), 2);
        Check.due("it speaks again", doors.mute(0, false), true);
        Check.due("none to mute", doors.mute(2, true), false);
        Check.due("none to speak", doors.mute(2, false), false);
        Check.due("status 1", doors.count(7), 4);
        Check.due("acts", doors.count(3), 2);
        Check.due("what has none is not muted", doors.house(2, 3), 0);
        RiddleDoors eight = Check.street("most 2;" + "house says here=1;".repeat(8));
        for (int h = 0; h < 8; h++) {
            Check.due("mute " + h, eight.mute(h, true), true);
            Check.due("numberings", eight.numberings(), 2 << h);
        }
        for (int h = 0; h < 8; h++) {
            Check.due("muted " + h, eight.house(h, 3), 1);
        }
    }

    private static void wrongMute() {
        Check.says("no such HOUSE (as everywhere)");
        RiddleDoors doors = Check.street(STREET);
        for (int house : new int[] {-1, 3, 8, 32, MIN, MAX}) {
            Check.throwsDue("mute(" + house + ", true)", Check.NSE, () -> doors.mute(house, true) ? 1 : 0);
            Check.throwsDue("mute(" + house + ", false)", Check.NSE, () -> doors.mute(house, false) ? 1 : 0);
        }
        Check.due("that is no status", doors.count(7), 0);
    }

    private static void thirtyActs() {
        Check.says("ACTS (at most 30 are kept, the latest ones)");
        RiddleDoors doors = Check.street(STREET);
        for (int i = 1; i <= 30; i++) {
            doors.become(2, 0, i);
            Check.due("acts", doors.count(3), i);
        }
        for (int i = 29; i >= 0; i--) {
            Check.due("undo", doors.undo(), i);
            Check.due("sons", doors.house(2, 0), i);
        }
        Check.due("no more", doors.undo(), RiddleDoors.NONE);
    }

    private static void thirtyOneActs() {
        Check.says("ACTS (at most 30 are kept, the latest ones)");
        for (int more = 1; more <= 32; more += 31) {
            RiddleDoors doors = Check.street(STREET);
            for (int i = 1; i <= 30 + more; i++) {
                doors.become(2, 0, i);
            }
            Check.due("acts", doors.count(3), 30);
            for (int i = 29; i >= 0; i--) {
                Check.due("undo", doors.undo(), i);
                Check.due("sons", doors.house(2, 0), i + more);
            }
            Check.due("no more", doors.undo(), RiddleDoors.NONE);
            Check.due("what the oldest made stays", doors.house(2, 0), more);
        }
    }

    private static void actsOfAllKinds() {
        Check.says("SONS, DEBTS of a HOUSE become others; its RIDDLE is MUTED (left out), or speaks again; they are UNDONE");
        RiddleDoors doors = Check.street("house 1 2 says 1;".repeat(8));
        for (int h = 0; h < 8; h++) {
            doors.become(h, 0, 99 - h);
            doors.become(h, 1, 90 - h);
            doors.mute(h, true);
        }
        Check.due("acts", doors.count(3), 24);
        for (int h = 7; h >= 0; h--) {
            Check.due("muted", doors.house(h, 3), 1);
            Check.due("undo muting", doors.undo(), 3 * h + 2);
            Check.due("speaks", doors.house(h, 3), 0);
            Check.due("debts", doors.house(h, 1), 90 - h);
            Check.due("undo debts", doors.undo(), 3 * h + 1);
            Check.due("debts then", doors.house(h, 1), 2);
            Check.due("sons", doors.house(h, 0), 99 - h);
            Check.due("undo sons", doors.undo(), 3 * h);
            Check.due("sons then", doors.house(h, 0), 1);
        }
    }

    private static void whateverTheyWere() {
        Check.says("The last ACT is UNDONE");
        for (int h = 0; h < 8; h++) {
            RiddleDoors doors = Check.street("house;".repeat(8));
            for (int v = 0; v <= 99; v += v < 11 || v > 87 ? 1 : 11) {
                for (int what = 0; what < 2; what++) {
                    doors.become(h, what, v);
                    Check.due("what they were", doors.become(h, what, 42), v);
                    doors.undo();
                    Check.due("what they are again", doors.house(h, what), v);
                    doors.undo();
                }
            }
            for (int other = 0; other < 8; other++) {
                Check.due("sons of all", doors.house(other, 0), 0);
                Check.due("debts of all", doors.house(other, 1), 0);
            }
        }
    }

    private static void lastOneFirst() {
        Check.says("they are UNDONE, the last one first");
        RiddleDoors doors = Check.street(STREET);
        doors.become(0, 0, 4);
        Check.due("numbers", doors.may(0), 16);
        doors.mute(0, true);
        Check.due("numbers, muted", doors.may(0), 62);
        doors.mute(0, false);
        Check.due("undo speaking", doors.undo(), 2);
        Check.due("numbers, muted again", doors.may(0), 62);
        Check.due("undo muting", doors.undo(), 1);
        Check.due("numbers, speaking", doors.may(0), 16);
        Check.due("undo sons", doors.undo(), 0);
        Check.due("numbers as told", doors.may(0), 2);
        doors.become(0, 0, 1);
        Check.due("to become the same is an act", doors.count(3), 1);
    }

    private static void nothingToUndo() {
        Check.says("The last ACT is UNDONE: how many are left. NONE: there is none.");
        RiddleDoors none = new RiddleDoors();
        Check.due("undo on a new object", none.undo(), RiddleDoors.NONE);
        RiddleDoors doors = Check.street(STREET);
        Check.due("undo without acts", doors.undo(), RiddleDoors.NONE);
        doors.become(0, 0, 100);
        doors.mute(2, true);
        Check.due("undo behind refused ones", doors.undo(), RiddleDoors.NONE);
        doors.letter(0, 1);
        Check.due("a letter is no act", doors.undo(), RiddleDoors.NONE);
        Check.due("it is still there", doors.count(4), 1);
        doors.become(0, 0, 4);
        Check.due("undo the only one", doors.undo(), 0);
        Check.due("undo once more", doors.undo(), RiddleDoors.NONE);
        Check.due("sons as told", doors.house(0, 0), 1);
        Check.due("status 1 is that of refused acts alone", doors.count(7), 2);
    }

    private static void tenLetters() {
        Check.says("A LETTER: how many there are. NONE (STATUS 2): there are 10, the NUMBER is not 1 to MOST.");
        RiddleDoors doors = Check.street(STREET);
        for (int i = 1; i <= 10; i++) {
            Check.due("letter " + i, doors.letter(2, 3), i);
        }
        Check.due("the eleventh", doors.letter(2, 3), RiddleDoors.NONE);
        Check.due("the eleventh, of no number", doors.letter(2, 6), RiddleDoors.NONE);
        Check.due("status 2", doors.count(8), 2);
        Check.due("letters", doors.count(4), 10);
        Check.due("the refused one tells nothing", doors.may(2), 8);
        Check.due("another one, refused", doors.letter(0, 5), RiddleDoors.NONE);
        Check.due("tells nothing either", doors.may(0), 2);
        Check.due("unletter", doors.unletter(), 9);
        Check.due("there is room again", doors.letter(2, 4), 10);
        Check.due("two that don't agree", doors.numberings(), 0);
        Check.due("status 2", doors.count(8), 3);
    }

    private static void lettersNumbers() {
        Check.says("NONE (STATUS 2): .. the NUMBER is not 1 to MOST.");
        RiddleDoors doors = Check.street("most 5;house;");
        Check.due("1", doors.letter(0, 1), 1);
        Check.due("its number", doors.may(0), 2);
        doors.unletter();
        Check.due("5", doors.letter(0, 5), 1);
        Check.due("its number", doors.may(0), 32);
        int refused = 0;
        for (int number : new int[] {0, 6, -1, 37, MIN, MAX}) {
            Check.due("letter of " + number, doors.letter(0, number), RiddleDoors.NONE);
            refused++;
            Check.due("status 2", doors.count(8), refused);
            Check.due("letters", doors.count(4), 1);
            Check.due("its number stays", doors.may(0), 32);
        }
        RiddleDoors twenty = Check.street("most 20;house;");
        Check.due("20", twenty.letter(0, 20), 1);
        Check.due("its number", twenty.may(0), 1 << 20);
        Check.due("21", twenty.letter(0, 21), RiddleDoors.NONE);
    }

    private static void wrongLetter() {
        Check.says("no such HOUSE (as everywhere)");
        RiddleDoors doors = Check.street(STREET);
        for (int house : new int[] {-1, 3, MIN, MAX}) {
            for (int number : new int[] {1, 0, 6}) {
                Check.throwsDue("letter(" + house + ", " + number + ")", Check.NSE, () -> doors.letter(house, number));
            }
        }
        for (int i = 0; i < 10; i++) {
            doors.letter(0, 1);
        }
        Check.throwsDue("where there are 10", Check.NSE, () -> doors.letter(3, 1));
        Check.due("that is no status", doors.count(8), 0);
    }

    private static void lastLetter() {
        Check.says("The last LETTER is taken back: how many are left. NONE: there is none.");
        Check.due("on a new object", new RiddleDoors().unletter(), RiddleDoors.NONE);
        RiddleDoors doors = Check.street("most 5;house;house;");
        Check.due("without letters", doors.unletter(), RiddleDoors.NONE);
        doors.letter(0, 1);
        doors.letter(1, 2);
        doors.letter(0, 3);
        Check.due("numberings", doors.numberings(), 0);
        Check.due("the last", doors.unletter(), 2);
        Check.due("numberings", doors.numberings(), 1);
        Check.due("the second", doors.unletter(), 1);
        Check.due("numberings", doors.numberings(), 5);
        Check.due("its number", doors.may(0), 2);
        doors.become(0, 0, 1);
        Check.due("the first", doors.unletter(), 0);
        Check.due("numberings", doors.numberings(), 25);
        Check.due("none", doors.unletter(), RiddleDoors.NONE);
        Check.due("acts are no letters", doors.count(3), 1);
        Check.due("status 2 is that of refused letters alone", doors.count(8), 0);
    }

    private static void noImage() {
        Check.says("They are as the image again: true. False: there is none.");
        RiddleDoors doors = new RiddleDoors();
        Check.due("on a new object", doors.restore(), false);
        doors.image();
        Check.due("of no houses", doors.restore(), true);
        Check.due("once more", doors.restore(), true);
        Check.due("a street", Check.tell(doors, STREET), 0);
        Check.due("of a new street", doors.restore(), false);
        doors.become(0, 0, 2);
        Check.due("still", doors.restore(), false);
        Check.due("the act is kept", doors.count(3), 1);
    }

    private static void imageOfAll() {
        Check.says("SONS, DEBTS, what is MUTED, ACTS and LETTERS are kept as an image");
        RiddleDoors doors = Check.street(STREET);
        for (int i = 0; i < 31; i++) {
            doors.become(2, i % 2, 50 + i);
        }
        doors.mute(0, true);
        for (int i = 1; i <= 5; i++) {
            doors.letter(2, i);
            doors.letter(2, i);
        }
        doors.image();
        for (int i = 0; i < 31; i++) {
            doors.undo();
            doors.unletter();
        }
        doors.mute(0, true);
        doors.mute(0, false);
        doors.mute(1, true);
        doors.become(0, 1, 9);
        doors.letter(0, 1);
        Check.due("numberings are others", doors.numberings(), 25);
        Check.due("restore", doors.restore(), true);
        Check.due("acts", doors.count(3), 30);
        Check.due("letters", doors.count(4), 10);
        Check.due("muted", doors.house(0, 3), 1);
        Check.due("speaks", doors.house(1, 3), 0);
        Check.due("debts of the first", doors.house(0, 1), 2);
        Check.due("sons of the last", doors.house(2, 0), 80);
        Check.due("debts of the last", doors.house(2, 1), 79);
        Check.due("numberings", doors.numberings(), 0);
        for (int i = 9; i >= 2; i--) {
            Check.due("unletter", doors.unletter(), i);
        }
        Check.due("the first letters", doors.may(2), 2);
        Check.due("undo muting", doors.undo(), 29);
        Check.due("speaks again", doors.house(0, 3), 0);
        for (int i = 28; i >= 0; i--) {
            Check.due("undo", doors.undo(), i);
        }
        Check.due("sons of the last are those of the oldest acts", doors.house(2, 0), 50);
        Check.due("debts too", doors.house(2, 1), 51);
    }

    private static void imageInPlaceOfAnother() {
        Check.says("in place of another one");
        RiddleDoors doors = Check.street(STREET);
        doors.become(0, 0, 2);
        doors.image();
        doors.become(0, 0, 3);
        doors.image();
        doors.become(0, 0, 4);
        Check.due("restore", doors.restore(), true);
        Check.due("the later one", doors.house(0, 0), 3);
        Check.due("acts", doors.count(3), 2);
        doors.undo();
        doors.undo();
        Check.due("restore again", doors.restore(), true);
        Check.due("still the later one", doors.house(0, 0), 3);
        doors.become(0, 0, 100);
        doors.letter(0, 6);
        doors.restore();
        Check.due("status 1 is no part of it", doors.count(7), 1);
        Check.due("status 2 is no part of it", doors.count(8), 1);
    }

    private static void imageThatIsGone() {
        Check.says("ACTS, LETTERS, what is kept, the image are gone (STATUS stays).");
        RiddleDoors doors = Check.street(STREET);
        doors.image();
        Check.throwsDue("a plant that is refused", Check.IAE, () -> doors.plant(1, 9));
        Check.throwsDue("a street that is refused", Check.IAE, () -> doors.street(1));
        Check.due("a fault", Check.tell(doors, "house"), 1);
        Check.due("it is still there", doors.restore(), true);
        doors.plant(1, 3);
        Check.due("gone by plant", doors.restore(), false);
        doors.image();
        Check.due("there again", doors.restore(), true);
        Check.due("a street", Check.tell(doors, STREET), 0);
        Check.due("gone by street", doors.restore(), false);
    }

    private static void status() {
        Check.says("STATUS: how many calls were refused: 0 of TEXTS with a FAULT, 1 of ACTS, 2 of LETTERS.");
        RiddleDoors doors = new RiddleDoors();
        for (int i = 1; i <= 3; i++) {
            Check.due("a fault", Check.tell(doors, "x"), 1);
            Check.due("a street", Check.tell(doors, STREET), 0);
            doors.become(0, 0, -1);
            doors.mute(2, true);
            doors.letter(0, 0);
            doors.undo();
            doors.unletter();
            doors.restore();
            Check.throwsDue("street(-1)", Check.IAE, () -> doors.street(-1));
            Check.throwsDue("become(9, 0, 1)", Check.NSE, () -> doors.become(9, 0, 1));
            Check.throwsDue("letter(9, 1)", Check.NSE, () -> doors.letter(9, 1));
            Check.due("status 0", doors.count(6), i);
            Check.due("status 1", doors.count(7), 2 * i);
            Check.due("status 2", doors.count(8), i);
            doors.plant(i, 2);
            Check.due("status 0 stays", doors.count(6), i);
            Check.due("status 1 stays", doors.count(7), 2 * i);
            Check.due("status 2 stays", doors.count(8), i);
        }
    }

    private static void calls() {
        Check.says("An object is used for at most 512 calls after it has been made");
        RiddleDoors doors = new RiddleDoors();
        Check.due("plant, the first call", doors.plant(0, 1), 0);
        for (int i = 2; i <= 511; i++) {
            Check.due("become, call " + i, doors.become(0, 0, 100), RiddleDoors.NONE);
        }
        Check.due("count(7), call 512", doors.count(7), 510);
    }
}
