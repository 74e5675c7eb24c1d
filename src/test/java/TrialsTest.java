/** Promises 23, 24, 26, 27, 34 and 35: feuds, years, a new house, what would change, streets by a seed, laws. */
public final class TrialsTest {
    private static final int SPENT = -2;

    public static void main(String[] args) {
        feuds();
        years();
        newHouses();
        changes();
        planting();
        laws();
        Check.end();
    }

    private static void feuds() {
        RiddleDoors kept = Check.street("most 5;house says here=1;house says here=2*before;house;");
        Check.due("both keep: how many", kept.feud(0, 1, 0), 1);
        Check.due("both keep: the first", kept.feud(0, 1, 1), 0);
        // Each tells the other's number: each gains by hiding, whatever the other does.
        RiddleDoors hidden = Check.street("most 3;house says after=1;house says before=1;");
        Check.due("both hide: how many", hidden.feud(0, 1, 0), 1);
        Check.due("both hide: the first", hidden.feud(0, 1, 1), 3);
        RiddleDoors mixed = Check.street("most 3;house says after=1;house says here=2 or here<3;");
        Check.due("the first hides: how many", mixed.feud(0, 1, 0), 2);
        Check.due("the first hides: the first", mixed.feud(0, 1, 1), 2);
        Check.due("the other way round", mixed.feud(1, 0, 1), 1);
        RiddleDoors without = Check.street("most 3;house;house;");
        Check.due("without riddles all rest", without.feud(0, 1, 0), 4);
        Check.due("the first of all", without.feud(0, 1, 1), 0);
        hidden.mute(0, true);
        Check.due("what is muted is so either way", hidden.feud(0, 1, 0), 2);
        Check.due("the first of these", hidden.feud(0, 1, 1), 1);
        Check.due("it is still muted", hidden.house(0, 3), 1);
        Check.due("the other speaks", hidden.house(1, 3), 0);
        Check.due("no act", hidden.count(3), 1);
        noRest();
        Check.due("one of four is spent", Check.street("most 11;house says here=1;house;house;").feud(0, 1, 0), SPENT);
        Check.throwsDue("both are one", Check.IAE, () -> kept.feud(1, 1, 0));
        Check.throwsDue("another what ahead of that", Check.NSE, () -> kept.feud(1, 1, 2));
        Check.throwsDue("another what below", Check.NSE, () -> kept.feud(0, 1, -1));
        Check.throwsDue("no first", Check.NSE, () -> kept.feud(3, 3, 0));
        Check.throwsDue("no second", Check.NSE, () -> kept.feud(0, -1, 0));
    }

    /** One that speaks alone makes the first one's number sure; both together leave no numbering, neither leaves all. */
    private static void noRest() {
        RiddleDoors doors = Check.street("most 2;house says here=1;house says before=2;house;");
        Check.due("none rests: how many", doors.feud(0, 1, 0), 0);
        Check.due("none rests: the first", doors.feud(0, 1, 1), RiddleDoors.NONE);
    }

    private static void years() {
        RiddleDoors doors = Check.street("most 5;house 9 says here=sons;house says here=before;");
        // By seed 1: draws 16838 (house 0), 5758 (8 sons), 10113 (house 1), 17515 (5 sons), 31051 (house 1), 5627 (7 sons)
        Check.due("none of three", doors.years(1, 3), 0);
        // then 23010 (house 0), 7419 (9 sons), 16212 (house 0), 4086 (6 sons), 2749 (house 1), 12767 (7 sons)
        Check.due("none of six", doors.years(1, 6), 0);
        // then 9084 (house 0), 12060 (0 sons), 32225 (house 1), 17543 (3 sons), 25089 (house 1), 21183 (3 sons)
        // then 25137 (house 1), 25566 (6 sons), 26966 (house 0), 4978 (8 sons), 20495 (house 1), 10311 (1 son)
        Check.due("none of twelve", doors.years(1, 12), 0);
        // then 11367 (house 1), 30054 (4 sons), 17031 (house 1), 13145 (5 sons), 19882 (house 0), 25736 (6 sons)
        // then 30524 (house 0), 28505 (5 sons), 28394 (house 0), 22102 (2 sons)
        Check.due("the last two of seventeen", doors.years(1, 17), 2);
        Check.due("no years", doors.years(1, 0), 0);
        Check.due("sons are as they were", doors.house(0, 0), 9);
        Check.due("no acts", doors.count(3), 0);
        Check.due("numberings are as they were", doors.numberings(), 0);
        Check.throwsDue("31 years", Check.IAE, () -> doors.years(1, 31));
        Check.throwsDue("-1 years", Check.IAE, () -> doors.years(1, -1));
        Check.due("30 years without houses", new RiddleDoors().years(7, 30), 30);
        RiddleDoors lettered = Check.street("most 5;house;");
        Check.due("five numberings each year", lettered.years(3, 5), 0);
        lettered.letter(0, 3);
        Check.due("one by a letter", lettered.years(3, 5), 5);
        RiddleDoors spent = Check.street("most 20;house;house;house;house says here=1 and of 0=0;");
        Check.due("spent", spent.years(1, 1), SPENT);
        Check.due("not in no years", spent.years(1, 0), 0);
        RiddleDoors two = Check.street("most 20;house;house;house;house says of 0=1 and of 1=1 and of 2=1 and here<3;");
        Check.due("a second numbering ends it", two.years(1, 3), 0);
    }

    private static void newHouses() {
        RiddleDoors none = new RiddleDoors();
        Check.due("the first house: how many", none.build(0), 9);
        Check.due("the first house: the first", none.build(1), 1);
        // 'here=of 0+c' has one numbering for c 3, 'here=c*of 0' for c 3 and 4
        RiddleDoors one = Check.street("most 4;house;");
        Check.due("behind a free one: how many", one.build(0), 3);
        Check.due("behind a free one: the first", one.build(1), 1003);
        one.letter(0, 2);
        // c 1 to 4; 0 to 2; 2
        Check.due("with a letter: how many", one.build(0), 8);
        Check.due("with a letter: the first", one.build(1), 1);
        Check.due("nothing was built", one.count(0), 1);
        Check.due("numberings are as they were", one.numberings(), 1);
        RiddleDoors after = Check.street("most 4;house says after=here+2;");
        // 3 and 4 leave one each; of 0+2 leaves two; 2 * of 0: 2, 4; 3 * of 0: 1, 3
        Check.due("who looked behind looks at it: how many", after.build(0), 4);
        Check.due("who looked behind looks at it: the first", after.build(1), 3);
        RiddleDoors of = Check.street("most 4;house says here=of 1;");
        Check.due("by 'of' at its number: how many", of.build(0), 4);
        of.mute(0, true);
        Check.due("not if it is muted", of.build(0), 3);
        RiddleDoors unlike = Check.street("most 2;unlike;house;house;");
        Check.due("no number is left: how many", unlike.build(0), 0);
        Check.due("no number is left: the first", unlike.build(1), RiddleDoors.NONE);
        RiddleDoors byProduct = Check.street("most 20;house says here=7 or here=6;house says here=2 and of 2;");
        Check.due("the first of many", byProduct.build(1), 2003);
        RiddleDoors spent = Check.street("most 20;house;house;house;house says of 0=of 4+20;");
        Check.due("spent", spent.build(1), SPENT);
        RiddleDoors two = Check.street("most 20;house says of 3 and of 0=1 and of 1=1 and of 2<3;house;house;");
        Check.due("a second numbering ends it", two.build(0), 0);
        RiddleDoors full = Check.street("house;".repeat(8));
        Check.throwsDue("there are 8", Check.IAE, () -> full.build(0));
        Check.throwsDue("another what ahead of that", Check.NSE, () -> full.build(2));
        Check.throwsDue("another what below", Check.NSE, () -> one.build(-1));
    }

    private static void changes() {
        RiddleDoors doors = Check.street("most 5;house 2 1 says here=sons;house says here=before+1;house says debts<here;");
        Check.due("two have others", doors.changed(0, 0, 3, 0), 2);
        Check.due("by one each", doors.changed(0, 0, 3, 1), 2);
        Check.due("all have others, as none has any", doors.changed(0, 0, 9, 0), 3);
        Check.due("how far from none", doors.changed(0, 0, 9, 1), RiddleDoors.NONE);
        Check.due("one by debts", doors.changed(2, 1, 3, 0), 1);
        Check.due("the first is 4 then", doors.changed(2, 1, 3, 1), 3);
        Check.due("nothing by the same", doors.changed(0, 0, 2, 0), 0);
        Check.due("nothing by debts that nobody asks", doors.changed(0, 1, 50, 1), 0);
        Check.due("99 may be", doors.changed(2, 1, 99, 0), 3);
        Check.due("0 may be", doors.changed(2, 1, 0, 0), 0);
        Check.due("nothing was done", doors.house(0, 0), 2);
        Check.due("no act", doors.count(3), 0);
        doors.become(0, 0, 9);
        Check.due("from none to some", doors.changed(0, 0, 2, 0), 3);
        Check.due("how far to some", doors.changed(0, 0, 2, 1), RiddleDoors.NONE);
        Check.throwsDue("100", Check.IAE, () -> doors.changed(0, 0, 100, 0));
        Check.throwsDue("-1", Check.IAE, () -> doors.changed(0, 0, -1, 0));
        Check.throwsDue("no such house ahead of that", Check.NSE, () -> doors.changed(3, 0, 100, 0));
        Check.throwsDue("another which ahead of that", Check.NSE, () -> doors.changed(0, 2, 100, 0));
        Check.throwsDue("another what ahead of that", Check.NSE, () -> doors.changed(0, 0, 100, 2));
        Check.throwsDue("another what below", Check.NSE, () -> doors.changed(0, 0, 1, -1));
        RiddleDoors spent = Check.street("most 11;house 1 says here=sons or sons=0;house;house;");
        Check.due("121 now", spent.numberings(), 121);
        Check.due("1331 then", spent.changed(0, 0, 0, 0), SPENT);
        Check.due("that was not done", spent.numberings(), 121);
    }

    private static void planting() {
        RiddleDoors doors = Check.street("most 7;unlike;house 1 1 says here=1;house;");
        doors.become(0, 0, 5);
        doors.become(0, 0, 500);
        doors.letter(0, 1);
        doors.walk(1, 1, 1);
        doors.image();
        // Draws by seed 1 as above: 2 (none, as it is house 0), 2: 10113 MOD 1, 17515 MOD 4 = 3, 3: 5627 MOD 2 = 1,
        // 2: 7419 MOD 3 = 0, 16212 MOD 4 = 0, 2: 2749 MOD 4 = 1, 12767 MOD 4 = 3
        Check.due("plant(1, 5)", doors.plant(1, 5), 4);
        Check.same("planted", Check.written(doors), "most 7;unlike;house 0 0;house 0 0 says here=of 0+3;"
            + "house 0 0 says not here=of 1;house 0 0 says here=of 0+0;house 0 0 says here=of 1+3;");
        int[] counts = {5, 7, 1, 0, 0, 0, 0, 1, 0};
        for (int i = 0; i < counts.length; i++) {
            Check.due("count(" + i + ") behind plant", doors.count(i), counts[i]);
        }
        Check.throwsDue("no walk is kept", Check.NSE, () -> doors.door(-1));
        Check.due("no image is kept", doors.restore(), false);
        Check.due("what looks", doors.house(4, 4), 18);
        doors.letter(1, 4);
        String before = Check.written(doors);
        Check.throwsDue("0 houses", Check.IAE, () -> doors.plant(1, 0));
        Check.throwsDue("9 houses", Check.IAE, () -> doors.plant(1, 9));
        Check.same("nothing changed", Check.written(doors), before);
        Check.due("nor letters", doors.count(4), 1);
        // Seed 3: 17747 MOD 4 = 3: none for house 0, without another draw; then 7107 MOD 4 = 3, 10365 MOD 1 = 0
        Check.due("plant(3, 2)", doors.plant(3, 2), 1);
        Check.same("planted by 3", Check.written(doors), "most 7;unlike;house 0 0;house 0 0 says not here=of 0;");
        Check.feed(doors, "most 5;");
        doors.plant(0, 1);
        Check.due("the tape stays", doors.count(5), 20);
        Check.due("a street can be read then", doors.street(7), 0);
        Check.due("its most", doors.count(1), 5);
    }

    private static void laws() {
        RiddleDoors doors = Check.street("most 3;house 1 says here=sons;house;");
        doors.letter(0, 1);
        doors.walk(3, 1, 2);
        String before = Check.written(doors);
        for (int law = 0; law < 3; law++) {
            Check.due("no seeds: how many", doors.tried(law, 0, 3, 0), 0);
            Check.due("no seeds: the least", doors.tried(law, 0, 3, 1), RiddleDoors.NONE);
            Check.due("no seeds: spent", doors.tried(law, 0, 3, 2), 0);
            oneByOne("most 3;", law, 3, 40);
            oneByOne("most 9;unlike;", law, 8, 12);
            oneByOne("most 3;", law, 4, 40);
        }
        // Seed 11: 'here=1', 'not here=of 0', none, 'here=of 1+2': a knot of three
        Check.due("a knot of three", doors.tried(2, 40, 4, 0), 1);
        Check.due("its seed", doors.tried(2, 40, 4, 1), 11);
        RiddleDoors forty = Check.street("most 8;");
        Check.due("riddles of seed 11", forty.plant(11, 4), 3);
        Check.due("7 - 2 by 8 numberings", forty.numberings(), 40);
        Check.due("are not spent", forty.tried(1, 12, 4, 2), forty.tried(1, 11, 4, 2));
        // Of one house: seeds 0 and 1 draw 0 and 2: no riddle, three numberings, one look
        Check.due("one look of one house", doors.tried(1, 2, 1, 0), 2);
        Check.due("the least of these", doors.tried(1, 2, 1, 1), 0);
        Check.due("where not all have a riddle the first law holds", doors.tried(0, 2, 1, 0), 0);
        Check.same("the street stays", Check.written(doors), before);
        Check.due("letters stay", doors.count(4), 1);
        Check.due("the walk stays", doors.door(-1), 3);
        Check.due("numberings stay", doors.numberings(), 3);
        Check.throwsDue("another law", Check.NSE, () -> doors.tried(3, 41, 9, 0));
        Check.throwsDue("another law below", Check.NSE, () -> doors.tried(-1, 1, 1, 0));
        Check.throwsDue("another what", Check.NSE, () -> doors.tried(0, 41, 9, 3));
        Check.throwsDue("another what below", Check.NSE, () -> doors.tried(0, 1, 1, -1));
        Check.throwsDue("41 seeds", Check.IAE, () -> doors.tried(0, 41, 1, 0));
        Check.throwsDue("-1 seeds", Check.IAE, () -> doors.tried(0, -1, 1, 0));
        Check.throwsDue("0 houses", Check.IAE, () -> doors.tried(0, 1, 0, 0));
        Check.throwsDue("9 houses", Check.IAE, () -> doors.tried(0, 1, 9, 0));
    }

    /** A law tried on seeds answers as each of these, planted. */
    private static void oneByOne(String text, int law, int houses, int seeds) {
        RiddleDoors doors = Check.street(text);
        RiddleDoors planted = Check.street(text);
        int broken = 0;
        int least = RiddleDoors.NONE;
        int spent = 0;
        for (int seed = 0; seed < seeds; seed++) {
            int riddles = planted.plant(seed, houses);
            boolean breaks;
            boolean isSpent;
            if (law == 0) {
                // As there are no letters, nobody need be a liar just if there is one numbering.
                isSpent = riddles == houses && planted.years(1, 1) == SPENT;
                breaks = riddles == houses && planted.years(1, 1) == 0 && planted.numberings() != 0;
            } else if (law == 1) {
                isSpent = planted.looks(0) == SPENT;
                breaks = planted.looks(0) >= houses;
            } else {
                isSpent = planted.knot() == SPENT;
                breaks = planted.knot() >= 0 && Integer.bitCount(planted.knot()) > 2;
            }
            if (isSpent) {
                spent++;
            } else if (breaks) {
                broken++;
                least = least == RiddleDoors.NONE ? seed : least;
            }
        }
        String call = "law " + law + " of " + houses + " houses: ";
        Check.due(call + "how many", doors.tried(law, seeds, houses, 0), broken);
        Check.due(call + "the least", doors.tried(law, seeds, houses, 1), least);
        Check.due(call + "spent", doors.tried(law, seeds, houses, 2), spent);
    }
}
