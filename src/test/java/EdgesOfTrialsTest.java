/** Each sentence of the document that names a boundary of promises 23, 24, 26 and 27: feuds, years, new houses, changes. */
public final class EdgesOfTrialsTest {
    private static final int SPENT = -2;
    private static final int NONE = RiddleDoors.NONE;
    private static final int MIN = Integer.MIN_VALUE;
    private static final int MAX = Integer.MAX_VALUE;

    public static void main(String[] args) {
        gains();
        firstCouple();
        mutedEitherWay();
        feudWithLetters();
        feudWithoutNumberings();
        oneOfTheFour();
        wrongFeuds();
        howManyYears();
        eachYearWithoutHouses();
        seedsThatWrap();
        fromThenOn();
        someYearIsSpent();
        sonsAreAsTheyWere();
        newHouseAlone();
        hereIsC();
        hereIsOfK();
        hereIsCByK();
        riddlesInOrder();
        whoLookedLooksAtIt();
        newHouseWithLetters();
        newHouseSpent();
        whereThereAreEight();
        howManyChange();
        howFar();
        changedWithLetters();
        oneOfBoth();
        wrongChanges();
        Check.end();
    }

    private static void feud(String text, int first, int second, int rest, int couple) {
        RiddleDoors doors = Check.street(text);
        Check.due("how many couples of " + text, doors.feud(first, second, 0), rest);
        Check.due("the first couple of " + text, doors.feud(first, second, 1), couple);
    }

    private static void gains() {
        Check.says("Each gains 2, if its own NUMBER is SURE, and 1, if the other's isn't.");
        // To keep makes both sure (2), to hide neither (1).
        feud("most 2;house says here=1 and after=1;house;", 0, 1, 2, 0);
        feud("most 2;house says here=1 and after=1;house;", 1, 0, 2, 0);
        feud("most 2;house;house says here=1 and before=1;", 0, 1, 2, 0);
        // To keep makes its own sure and the other's not (3), to hide neither (1).
        feud("most 2;house says here=1;house;", 0, 1, 2, 0);
        // To keep makes the other's sure alone (0), to hide neither (1).
        feud("most 2;house says after=1;house;", 0, 1, 2, 2);
        feud("most 2;house says after=1;house;", 1, 0, 2, 1);
        // Both are sure, whatever the third one says: nobody gains by anything.
        feud("most 2;house says here=1;house says here=1;house says of 0=1 and of 1=1;", 0, 1, 4, 0);
        // To keep makes both sure (2); to hide leaves the other's sure alone (0).
        feud("most 2;house says here=1;house says 1;house says of 1=1;", 0, 1, 2, 0);
        feud("most 2;house says here=1;house says here=1;house;", 0, 1, 1, 0);
        feud("most 2;house says here=1 and after=1;house says here=1 and before=1;", 0, 1, 3, 0);
    }

    private static void firstCouple() {
        Check.says("the first, by the first one's choice, then the second's (to keep ahead of to hide)");
        feud("most 2;house;house;", 0, 1, 4, 0);
        feud("most 3;house says after=1;house says before=1;", 0, 1, 1, 3);
        feud("most 2;house says after=1;house;", 0, 1, 2, 2);
        feud("most 2;house;house says before=1;", 0, 1, 2, 1);
        feud("most 3;house says here=1;house says before=1;", 0, 1, 2, 0);
        feud("most 2;house says here=1;house says before=2;house;", 0, 1, 0, NONE);
        feud("most 2;" + "house;".repeat(6) + "house says here=1;house says here=1;", 7, 6, 1, 0);
    }

    private static void mutedEitherWay() {
        Check.says("it is MUTED; what is MUTED already is so either way");
        RiddleDoors doors = Check.street("most 3;house says here=1;house says here=1;");
        Check.due("both keep", doors.feud(0, 1, 0), 1);
        doors.mute(0, true);
        Check.due("the first is muted", doors.feud(0, 1, 0), 2);
        Check.due("keeping, both", doors.feud(0, 1, 1), 0);
        Check.due("it is muted still", doors.house(0, 3), 1);
        Check.due("the other isn't", doors.house(1, 3), 0);
        doors.mute(1, true);
        Check.due("both are muted", doors.feud(0, 1, 0), 4);
        // A third one's riddle that is muted stays so.
        RiddleDoors third = Check.street("most 3;house;house;house says of 0=1 and of 1=1;");
        third.mute(2, true);
        Check.due("a third one is muted", third.feud(0, 2, 0), 4);
        Check.due("acts", third.count(3), 1);
    }

    private static void feudWithLetters() {
        Check.says("A NUMBERING gives each HOUSE a NUMBER, so that .. all LETTERS ..");
        RiddleDoors doors = Check.street("most 3;house says here=1;house;");
        Check.due("without", doors.feud(0, 1, 0), 2);
        doors.letter(0, 1);
        Check.due("with a letter it is sure either way", doors.feud(0, 1, 0), 4);
    }

    private static void feudWithoutNumberings() {
        Check.says("it is SURE, if there is just one.");
        // Without numberings nobody is sure: to keep gains 1, to hide 1.
        feud("most 3;house says 0;house;house;", 1, 2, 4, 0);
        // Both keep: none (1, 1). The second hides: the first is sure (3, 0); the first hides: the second's says so (3, 0).
        feud("most 2;house says here=1;house says before=2;", 0, 1, 0, NONE);
        // Only if the second hides is the first sure (3, 0), so the second keeps.
        feud("most 3;house says here=1;house says here=0;", 0, 1, 2, 0);
    }

    private static void oneOfTheFour() {
        Check.says("SPENT, as soon as one of the four is.");
        String one = "house says here=1;";
        feud("most 10;" + one + one + "house;house says here=1;", 0, 1, 1, 0);
        // Of these only to hide both is spent.
        feud("most 11;" + one + one + "house;house says here=1;", 0, 1, SPENT, SPENT);
        // Only to keep both is spent: the one makes the other too late.
        feud("most 20;house;house;house says 1;house says here=0;", 0, 3, SPENT, SPENT);
        feud("most 20;house says 9<here;house says 9<here;house says 9<here;house says here=0;", 0, 1, SPENT, SPENT);
        feud("most 20;house says here=1;house says here=1;house says here=1;house says here=1;", 0, 3, 1, 0);
        // Only if the first hides, or the second.
        feud("most 20;house says here<3;house says here=1;house;house;", 0, 1, SPENT, SPENT);
        feud("most 20;house says here<3;house says here=1;house;house;", 1, 0, SPENT, SPENT);
    }

    private static void wrongFeuds() {
        Check.says("NoSuchElementException: also another what. IllegalArgumentException (behind that): both are one.");
        RiddleDoors doors = Check.street("most 3;house;house;");
        for (int wrong : new int[] {-1, 2, MIN, MAX}) {
            Check.throwsDue("no first", Check.NSE, () -> doors.feud(wrong, 0, 0));
            Check.throwsDue("no second", Check.NSE, () -> doors.feud(0, wrong, 0));
            Check.throwsDue("another what", Check.NSE, () -> doors.feud(0, 1, wrong));
            Check.throwsDue("no such house, twice", Check.NSE, () -> doors.feud(wrong, wrong, 0));
            Check.throwsDue("another what, and both are one", Check.NSE, () -> doors.feud(1, 1, wrong));
        }
        Check.throwsDue("both are 0", Check.IAE, () -> doors.feud(0, 0, 0));
        Check.throwsDue("both are 1", Check.IAE, () -> doors.feud(1, 1, 1));
        Check.due("not both", doors.feud(1, 0, 1), 0);
    }

    private static void howManyYears() {
        Check.says("YEARS (0 to 30) by a seed");
        RiddleDoors doors = Check.street("house says here=1;");
        Check.due("0", doors.years(1, 0), 0);
        Check.due("1", doors.years(1, 1), 1);
        Check.due("30", doors.years(1, 30), 30);
        for (int years : new int[] {-1, 31, MIN, MAX}) {
            Check.throwsDue("years(1, " + years + ")", Check.IAE, () -> doors.years(1, years));
            Check.throwsDue("years(1, " + years + ") without houses", Check.IAE, () -> new RiddleDoors().years(1, years));
        }
        RiddleDoors spent = Check.street("most 20;house;house;house;house says here=1 and of 0=0;");
        Check.due("no year is spent", spent.years(1, 0), 0);
        Check.throwsDue("31, ahead of spent", Check.IAE, () -> spent.years(1, 31));
    }

    private static void eachYearWithoutHouses() {
        Check.says("(Without HOUSES: each.)");
        for (int years = 0; years <= 30; years += 5) {
            Check.due("years", new RiddleDoors().years(5, years), years);
        }
    }

    /** By the rule of the document, in wider numbers than an int has. */
    private static long[] draws(int seed, int count) {
        long[] draws = new long[count];
        long s = seed & 0xffffffffL;
        for (int i = 0; i < count; i++) {
            s = (s * 1103515245L + 12345L) % (1L << 32);
            draws[i] = s / 65536 % 32768;
        }
        return draws;
    }

    private static void seedsThatWrap() {
        Check.says("A seed becomes itself times 1103515245 and 12345 (an int that wraps); a DRAW of n is its bits 16 to 30 MOD n then.");
        // One house: it is drawn, and has one numbering, unless it has no sons.
        RiddleDoors one = Check.street("house says here=sons;");
        RiddleDoors three = Check.street("most 2;house says here=1;house 1 says sons and here=1;house says here=1;");
        for (int seed : new int[] {0, 1, -1, 2, 12345, -12345, MIN, MAX, MIN + 1, MAX - 1, 1 << 16, 1 << 30, 0x80000000 >> 1}) {
            long[] draws = draws(seed, 60);
            int due = 0;
            int dueOfThree = 0;
            long sons = 1;
            for (int year = 0; year < 30; year++) {
                due += draws[2 * year + 1] % 10 != 0 ? 1 : 0;
                sons = draws[2 * year] % 3 == 1 ? draws[2 * year + 1] % 10 : sons;
                dueOfThree += sons != 0 ? 1 : 0;
            }
            Check.due("years(" + seed + ", 30)", one.years(seed, 30), due);
            Check.due("years(" + seed + ", 30) of three", three.years(seed, 30), dueOfThree);
        }
    }

    private static void fromThenOn() {
        Check.says("has as many SONS as a DRAW of 10 says, from then on");
        // By seed 1: house 0 of two has 8 sons, house 1 has 5, house 1 has 7, house 0 has 9.
        RiddleDoors doors = Check.street("most 9;house says here=sons;house says here=sons;");
        Check.due("the second has none yet", doors.years(1, 1), 0);
        Check.due("8 and 5", doors.years(1, 2), 1);
        Check.due("8 and 7", doors.years(1, 3), 2);
        Check.due("9 and 7", doors.years(1, 4), 3);
    }

    private static void someYearIsSpent() {
        Check.says("SPENT, as soon as some year is.");
        // By seed 1 the last of four has sons from the third year on, and its riddle is too late then.
        RiddleDoors doors = Check.street("most 20;house;house;house;house says (sons=0 or of 0=0) and here;");
        Check.due("one year", doors.years(1, 1), 0);
        Check.due("two years", doors.years(1, 2), 0);
        Check.due("three years", doors.years(1, 3), SPENT);
        Check.due("thirty years", doors.years(1, 30), SPENT);
        RiddleDoors many = Check.street("most 20;" + "house;".repeat(8));
        Check.due("more than 1000 numberings are not spent here", many.years(1, 30), 0);
    }

    private static void sonsAreAsTheyWere() {
        Check.says("SONS are as they were behind it");
        RiddleDoors doors = Check.street("house 11 says here=1;house 22;");
        doors.become(0, 0, 33);
        doors.years(1, 30);
        Check.due("sons of the first", doors.house(0, 0), 33);
        Check.due("sons of the second", doors.house(1, 0), 22);
        Check.due("acts", doors.count(3), 1);
        RiddleDoors spent = Check.street("most 20;house 5;house 5;house 5;house 5 says here=1 and of 0=0;");
        Check.due("spent", spent.years(1, 3), SPENT);
        for (int h = 0; h < 4; h++) {
            Check.due("sons, spent", spent.house(h, 0), 5);
        }
    }

    private static void build(String text, int riddles, int first) {
        RiddleDoors doors = Check.street(text);
        Check.due("how many riddles behind " + text, doors.build(0), riddles);
        Check.due("the first riddle behind " + text, doors.build(1), first);
        Check.due("houses are as they were", doors.count(0), Math.max(0, text.split("house", -1).length - 1));
    }

    private static void newHouseAlone() {
        Check.says("A NEW HOUSE, number HOUSES, comes behind all");
        build("", 9, 1);
        build("most 2;", 2, 1);
        build("most 20;unlike;", 20, 1);
    }

    private static void hereIsC() {
        Check.says("'here=c' (c 1 to MOST)");
        build("most 20;house says here=20 and after=1;", 1, 1);
        build("most 20;house says here=1 and after=20;", 1, 20);
        build("most 20;house says here=1 and after=19;", 1, 19);
        build("most 2;house says here=1 and after=1;", 2, 1);
    }

    private static void hereIsOfK() {
        Check.says("'here=of k+c' (k each HOUSE ahead, c 0 to 9, k first)");
        String two = "most 20;house says (here=%d or here=%d) and after=20;";
        // Each of these leaves one of the two numbers of house 0.
        build(String.format(two, 20, 1), 1, 1000);
        build(String.format(two, 19, 1), 1, 1001);
        build(String.format(two, 11, 1), 1, 1009);
        build(String.format(two, 11, 12), 2, 1008);
        // 10 is too much to add, but twice 10 may be.
        build(String.format(two, 10, 1), 1, 2002);
        String ahead = "house says here=20;";
        build("most 20;" + ahead + "house says (here=11 or here=1) and after=20;", 1, 1109);
        build("most 20;" + ahead.repeat(6) + "house says (here=11 or here=1) and after=20;", 1, 1609);
        build("most 20;" + ahead.repeat(6) + "house says (here=20 or here=1) and after=20;", 1, 1600);
        // k first: 11 of house 0 and 9 is ahead of 20 of house 1 and 0.
        build("most 20;house;house says (before=11 and here=2 or before=1 and here=20) and after=20;", 2, 1009);
    }

    private static void hereIsCByK() {
        Check.says("'here=c*of k' (k each, c 2 to 9)");
        String two = "most 20;house says (here=%d or here=%d) and after=18;";
        build(String.format(two, 2, 1), 1, 2009);
        build(String.format(two, 3, 1), 1, 2006);
        // once 18 is no product here, and 0 more than it is
        build(String.format(two, 18, 1), 1, 1000);
        build("most 20;house says (here=2 or here=1) and after=20;", 0, NONE);
        String ahead = "house says here=18;";
        build("most 20;" + ahead.repeat(6) + "house says (here=2 or here=1) and after=18;", 1, 2609);
        build("most 20;" + ahead.repeat(3) + "house says (here=2 or here=1) and after=18;", 1, 2309);
        // 38: all of each kind
        build("most 20;house says here=2;", 20 + 10 + 8, 1);
        build("most 20;house says here=3;", 20 + 10 + 5, 1);
        build("most 20;house says here=12;", 20 + 9, 1);
        build("most 20;house says here=2;house says here=2;", 20 + 2 * 10 + 2 * 8, 1);
    }

    private static void riddlesInOrder() {
        Check.says("Its RIDDLES that may be, in this order");
        RiddleDoors doors = Check.street("most 4;house;");
        // 'here=of 0+3', 'here=3*of 0', 'here=4*of 0'
        Check.due("how many", doors.build(0), 3);
        Check.due("the first", doors.build(1), 1003);
        doors.letter(0, 4);
        Check.due("with a letter", doors.build(0), 5);
        Check.due("the first with a letter", doors.build(1), 1);
        build("most 2;unlike;house;house;", 0, NONE);
        build("most 3;unlike;house says here=1;house says here=2;", 4, 3);
        build("most 5;house;house;", 0, NONE);
    }

    private static void whoLookedLooksAtIt() {
        Check.says("(who looked behind the last one, or by 'of' at its number, looks at it)");
        build("most 3;house says after=2 and here=1;", 3, 2);
        build("most 3;house says of 1=2 and here=1;", 3, 2);
        build("most 3;house says of 2=2 and here=1;", 0, NONE);
        build("most 3;house says of 2=0 and here=1;", 3 + 3 + 2, 1);
        build("most 3;" + "house says here=1;".repeat(6) + "house says after=2 and here=1;", 1 + 7 + 7, 2);
        build("most 3;house says of 7=2 and here=1;" + "house says here=1;".repeat(6), 1 + 7 + 7, 2);
        RiddleDoors muted = Check.street("most 3;house says here=1;house says of 2=2;");
        Check.due("of 1+0", muted.build(1), 1100);
        muted.mute(1, true);
        Check.due("a muted one doesn't: of 1+2", muted.build(1), 1102);
        RiddleDoors doors = Check.street("most 3;house 5 says after=2 and here=1;");
        doors.build(0);
        Check.due("it looks at nobody behind that", doors.house(0, 4), 1);
        Check.due("no numberings as ever", doors.numberings(), 0);
    }

    private static void newHouseWithLetters() {
        Check.says("How many of them leave just one NUMBERING (so asked, with LETTERS)");
        RiddleDoors doors = Check.street("most 20;house;house;");
        Check.due("without", doors.build(0), 0);
        doors.letter(0, 2);
        Check.due("with one of both", doors.build(0), 0);
        doors.letter(1, 20);
        Check.due("with two: all, and 20 of house 1", doors.build(0), 20 + 10 + 1 + 8);
        Check.due("letters", doors.count(4), 2);
        doors.letter(1, 19);
        Check.due("with three that don't agree", doors.build(0), 0);
        Check.due("the first", doors.build(1), NONE);
    }

    private static void newHouseSpent() {
        Check.says("SPENT, as soon as one of them is.");
        // Nothing holds, and it is asked of four houses only with the new one.
        build("most 20;house;house;house;house says of 0=of 4+20;", SPENT, SPENT);
        // 'here=of 0+9' is too late, though 'here=1' leaves just one.
        build("most 20;house;house;house;house says of 0=1 and of 1=1 and of 2=1 and here=1 and of 4=1;", SPENT, SPENT);
        // More than 1000 numberings are not spent here.
        build("most 20;house;house;house;house;", 0, NONE);
        // 8420 tries of three houses, and 20 for each that these are left, as 'here=of 0+9' leaves none: 20000, and 20020
        build("most 20;house;house;house says 7421<(of 0-1)*400+(of 1-1)*20+here;", 0, NONE);
        build("most 20;house;house;house says 7420<(of 0-1)*400+(of 1-1)*20+here;", SPENT, SPENT);
    }

    private static void whereThereAreEight() {
        Check.says("NoSuchElementException: another what. IllegalArgumentException (behind that): there are 8 HOUSES.");
        RiddleDoors eight = Check.street("most 2;" + "house;".repeat(8));
        RiddleDoors seven = Check.street("most 2;" + "house;".repeat(7));
        for (int what = 0; what < 2; what++) {
            int asked = what;
            Check.throwsDue("build(" + what + ") of eight", Check.IAE, () -> eight.build(asked));
        }
        Check.due("build(0) of seven", seven.build(0), 0);
        Check.due("build(1) of seven", seven.build(1), NONE);
        for (int what : new int[] {-1, 2, MIN, MAX}) {
            Check.throwsDue("build(" + what + ") of eight", Check.NSE, () -> eight.build(what));
            Check.throwsDue("build(" + what + ") of seven", Check.NSE, () -> seven.build(what));
            Check.throwsDue("build(" + what + ") of none", Check.NSE, () -> new RiddleDoors().build(what));
        }
    }

    private static void changed(RiddleDoors doors, int house, int which, int v, int houses, int far) {
        String call = "changed(" + house + ", " + which + ", " + v + ", ";
        Check.due(call + "0)", doors.changed(house, which, v, 0), houses);
        Check.due(call + "1)", doors.changed(house, which, v, 1), far);
    }

    private static void howManyChange() {
        Check.says("how many HOUSES would have other NUMBERS than they have");
        RiddleDoors doors = Check.street("most 9;house 3 1 says here<sons;house says here=before;house says debts<here;house;");
        changed(doors, 0, 0, 3, 0, 0);
        changed(doors, 0, 0, 4, 2, 0);
        changed(doors, 0, 0, 2, 2, 0);
        changed(doors, 0, 0, 99, 2, 0);
        changed(doors, 0, 0, 0, 4, NONE);
        changed(doors, 2, 1, 8, 1, 8);
        changed(doors, 2, 1, 9, 4, NONE);
        changed(doors, 2, 0, 9, 0, 0);
        changed(doors, 0, 1, 99, 0, 0);
        Check.due("nothing is done", doors.house(0, 0), 3);
        Check.due("no act", doors.count(3), 0);
    }

    private static void howFar() {
        Check.says("how far all NUMBERS of the first NUMBERING would be from those of that now, together (none, if there is none of either)");
        RiddleDoors one = Check.street("most 20;house 5 says here=sons;house says here=21-before;");
        changed(one, 0, 0, 6, 2, 2);
        changed(one, 0, 0, 4, 2, 2);
        changed(one, 0, 0, 20, 2, 30);
        changed(one, 0, 0, 1, 2, 8);
        changed(one, 0, 0, 0, 2, NONE);
        changed(one, 0, 0, 21, 2, NONE);
        one.become(0, 0, 0);
        changed(one, 0, 0, 21, 0, NONE);
        changed(one, 0, 0, 5, 2, NONE);
        // The first numberings are alike, though the numbers are others.
        RiddleDoors alike = Check.street("most 5;house 2 says here<sons;");
        changed(alike, 0, 0, 5, 1, 0);
        RiddleDoors eight = Check.street("most 20;house 1 says here=sons;" + "house says here=before;".repeat(7));
        changed(eight, 0, 0, 20, 8, 8 * 19);
    }

    private static void changedWithLetters() {
        Check.says("A NUMBERING gives each HOUSE a NUMBER, so that .. all LETTERS ..");
        RiddleDoors doors = Check.street("most 5;house 1 says here=sons;house;");
        doors.letter(1, 2);
        changed(doors, 0, 0, 2, 1, 1);
        doors.letter(0, 1);
        changed(doors, 0, 0, 2, 2, NONE);
        RiddleDoors muted = Check.street("most 5;house 1 says here=sons;house;");
        muted.mute(0, true);
        changed(muted, 0, 0, 2, 0, 0);
    }

    private static void oneOfBoth() {
        Check.says("SPENT, if one of both is. (Nothing is done.)");
        RiddleDoors then = Check.street("most 11;house 1 says sons=0 or here=sons;house;house;");
        Check.due("now", then.numberings(), 121);
        changed(then, 0, 0, 0, SPENT, SPENT);
        changed(then, 0, 0, 2, 1, 1);
        then.become(0, 0, 0);
        Check.due("now", then.numberings(), SPENT);
        changed(then, 0, 0, 1, SPENT, SPENT);
        changed(then, 0, 0, 0, SPENT, SPENT);
        Check.due("it is still so", then.numberings(), SPENT);
        RiddleDoors thousand = Check.street("most 10;house 1 says sons=0 or here=sons;house;house;");
        changed(thousand, 0, 0, 0, 1, 0);
    }

    private static void wrongChanges() {
        Check.says("NoSuchElementException: also another which, what. IllegalArgumentException (behind that): not 0 to 99.");
        RiddleDoors doors = Check.street("most 3;house;house;");
        changed(doors, 0, 0, 0, 0, 0);
        changed(doors, 1, 1, 99, 0, 0);
        for (int v : new int[] {-1, 100, MIN, MAX}) {
            Check.throwsDue("changed(0, 0, " + v + ", 0)", Check.IAE, () -> doors.changed(0, 0, v, 0));
            Check.throwsDue("changed(1, 1, " + v + ", 1)", Check.IAE, () -> doors.changed(1, 1, v, 1));
            for (int wrong : new int[] {-1, 2, MIN, MAX}) {
                Check.throwsDue("changed(" + wrong + ", 0, " + v + ", 0)", Check.NSE, () -> doors.changed(wrong, 0, v, 0));
                Check.throwsDue("changed(0, " + wrong + ", " + v + ", 0)", Check.NSE, () -> doors.changed(0, wrong, v, 0));
                Check.throwsDue("changed(0, 0, " + v + ", " + wrong + ")", Check.NSE, () -> doors.changed(0, 0, v, wrong));
            }
        }
        for (int wrong : new int[] {-1, 2, MIN, MAX}) {
            Check.throwsDue("no such house", Check.NSE, () -> doors.changed(wrong, 0, 1, 0));
            Check.throwsDue("another which", Check.NSE, () -> doors.changed(0, wrong, 1, 0));
            Check.throwsDue("another what", Check.NSE, () -> doors.changed(0, 0, 1, wrong));
        }
        Check.due("none of these is an act that was refused", doors.count(7), 0);
    }
}
