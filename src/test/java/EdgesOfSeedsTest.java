/** Each sentence of the document that names a boundary of promises 34 and 35: streets by a seed, laws tried on these. */
public final class EdgesOfSeedsTest {
    private static final int SPENT = -2;
    private static final int NONE = RiddleDoors.NONE;
    private static final int MIN = Integer.MIN_VALUE;
    private static final int MAX = Integer.MAX_VALUE;

    private long seed;

    private EdgesOfSeedsTest(int from) {
        seed = from & 0xffffffffL;
    }

    public static void main(String[] args) {
        streetsBySeeds();
        noOtherDraw();
        oneToEight();
        whatStays();
        whatIsGone();
        nothingChanges();
        noSeeds();
        fortySeeds();
        leastSeed();
        oneNumberingOrNone();
        notAllHaveARiddle();
        fewerLooks();
        moreThanForty();
        twoAtMost();
        spentBySomeLaw();
        streetStays();
        wrongLaws();
        wrongSeeds();
        Check.end();
    }

    /** By the rule of the document, in wider numbers than an int has. */
    private int draw(int n) {
        seed = (seed * 1103515245L + 12345L) % (1L << 32);
        return (int) (seed / 65536 % 32768 % n);
    }

    private String house(int house, int most) {
        switch (draw(4)) {
            case 1:
                return "house 0 0 says here=" + (1 + draw(most)) + ";";
            case 2:
                return house == 0 ? "house 0 0;" : "house 0 0 says here=of " + draw(house) + "+" + draw(4) + ";";
            case 3:
                return house == 0 ? "house 0 0;" : "house 0 0 says not here=of " + draw(house) + ";";
            default:
                return "house 0 0;";
        }
    }

    private static String bySeed(int seed, int houses, int most) {
        EdgesOfSeedsTest draws = new EdgesOfSeedsTest(seed);
        StringBuilder text = new StringBuilder();
        for (int h = 0; h < houses; h++) {
            text.append(draws.house(h, most));
        }
        return text.toString();
    }

    private static int riddlesOf(String text) {
        return text.split("says", -1).length - 1;
    }

    private static void streetsBySeeds() {
        Check.says("A seed becomes itself times 1103515245 and 12345 (an int that wraps); a DRAW of n is its bits 16 to 30 MOD n then.");
        int[] seeds = {0, 1, 2, 3, 4, -1, -2, MIN, MAX, MIN + 1, MAX - 1, 65536, -65536, 1 << 30, 123456789, -987654321};
        for (int most : new int[] {2, 9, 20}) {
            RiddleDoors doors = Check.street("most " + most + ";");
            for (int seed : seeds) {
                String due = bySeed(seed, 8, most);
                Check.due("plant(" + seed + ", 8): how many have a riddle", doors.plant(seed, 8), riddlesOf(due));
                Check.same("plant(" + seed + ", 8)", Check.written(doors), "most " + most + ";" + due);
            }
        }
    }

    private static void noOtherDraw() {
        Check.says("(HOUSE 0 has none by 2, 3, without another DRAW)");
        RiddleDoors doors = new RiddleDoors();
        // Seed 1 draws 2 for house 0, and 2, 0, 3 for house 1; seed 3 draws 3, and 3, 0.
        Check.due("by 2", doors.plant(1, 2), 1);
        Check.same("by 2", Check.written(doors), "most 9;house 0 0;house 0 0 says here=of 0+3;");
        Check.due("by 3", doors.plant(3, 2), 1);
        Check.same("by 3", Check.written(doors), "most 9;house 0 0;house 0 0 says not here=of 0;");
        for (int seed = 0; seed < 40; seed++) {
            String due = bySeed(seed, 3, 9);
            Check.due("plant(" + seed + ", 3)", doors.plant(seed, 3), riddlesOf(due));
            Check.same("plant(" + seed + ", 3)", Check.written(doors), "most 9;" + due);
        }
    }

    private static void oneToEight() {
        Check.says("IllegalArgumentException: not 1 to 8 HOUSES (nothing changes).");
        RiddleDoors doors = new RiddleDoors();
        for (int houses = 1; houses <= 8; houses++) {
            doors.plant(5, houses);
            Check.due("houses", doors.count(0), houses);
            Check.same("plant(5, " + houses + ")", Check.written(doors), "most 9;" + bySeed(5, houses, 9));
        }
        for (int houses : new int[] {0, 9, -1, MIN, MAX}) {
            Check.throwsDue("plant(5, " + houses + ")", Check.IAE, () -> doors.plant(5, houses));
            Check.due("houses are as they were", doors.count(0), 8);
        }
    }

    private static void whatStays() {
        Check.says("in place of that which is (MOST, UNLIKE stay)");
        RiddleDoors doors = Check.street("most 20;unlike;house 7 7 says 0;");
        doors.plant(4, 3);
        Check.due("most", doors.count(1), 20);
        Check.due("unlike", doors.count(2), 1);
        Check.same("written", Check.written(doors), "most 20;unlike;" + bySeed(4, 3, 20));
        for (int h = 0; h < 3; h++) {
            Check.due("sons", doors.house(h, 0), 0);
            Check.due("debts", doors.house(h, 1), 0);
            Check.due("it speaks", doors.house(h, 3), 0);
        }
        Check.due("a street without these", Check.tell(doors, "house;"), 0);
        doors.plant(4, 3);
        Check.due("most, not told", doors.count(1), 9);
        Check.due("unlike, not told", doors.count(2), 0);
    }

    private static void whatIsGone() {
        Check.says("ACTS, LETTERS, what is kept, the image are gone (STATUS stays).");
        RiddleDoors doors = Check.street("most 5;house 1 2 says here=1;house;");
        Check.due("a fault", Check.tell(doors, "x"), 1);
        doors.become(0, 0, 9);
        doors.become(0, 0, 100);
        doors.mute(0, true);
        doors.letter(0, 1);
        doors.letter(0, 6);
        doors.walk(1, 1, 1);
        doors.image();
        Check.feed(doors, "most 7;");
        doors.plant(1, 2);
        int[] counts = {2, 5, 0, 0, 0, 20, 1, 1, 1};
        for (int i = 0; i < counts.length; i++) {
            Check.due("count(" + i + ")", doors.count(i), counts[i]);
        }
        Check.due("undo", doors.undo(), NONE);
        Check.due("unletter", doors.unletter(), NONE);
        Check.due("restore", doors.restore(), false);
        Check.throwsDue("door(-1)", Check.NSE, () -> doors.door(-1));
        Check.due("the latest street()'s fault", doors.fault(), 0);
    }

    private static void nothingChanges() {
        Check.says("not 1 to 8 HOUSES (nothing changes)");
        RiddleDoors doors = Check.street("most 5;house 1 2 says here=1;house;");
        doors.become(0, 0, 9);
        doors.mute(0, true);
        doors.letter(0, 2);
        doors.image();
        doors.walk(1, 1, 1);
        for (int houses : new int[] {0, 9, -1, MIN, MAX}) {
            Check.throwsDue("plant(1, " + houses + ")", Check.IAE, () -> doors.plant(1, houses));
            int[] counts = {2, 5, 0, 2, 1, 0, 0, 0, 0};
            for (int i = 0; i < counts.length; i++) {
                Check.due("count(" + i + ")", doors.count(i), counts[i]);
            }
            Check.due("muted", doors.house(0, 3), 1);
            Check.due("the walk", doors.door(0), 2);
            Check.due("numberings", doors.numberings(), 5);
        }
        Check.same("written", Check.written(doors), "most 5;house 9 2 says here=1;house 0 0;");
        Check.due("undo", doors.undo(), 1);
        Check.due("restore", doors.restore(), true);
    }

    private static void tried(RiddleDoors doors, int law, int seeds, int houses, int... due) {
        for (int what = 0; what < 3; what++) {
            Check.due("tried(" + law + ", " + seeds + ", " + houses + ", " + what + ")", doors.tried(law, seeds, houses, what), due[what]);
        }
    }

    private static void noSeeds() {
        Check.says("LAWS (0 to 2) tried on so many seeds (0 to 40)");
        RiddleDoors doors = Check.street("most 3;");
        for (int law = 0; law < 3; law++) {
            for (int houses = 1; houses <= 8; houses++) {
                tried(doors, law, 0, houses, 0, NONE, 0);
            }
        }
    }

    /** What laws say of streets, each of which is planted and asked by itself. */
    private static int[] oneByOne(String text, int law, int seeds, int houses) {
        RiddleDoors planted = Check.street(text);
        int[] due = {0, NONE, 0};
        for (int seed = 0; seed < seeds; seed++) {
            int riddles = planted.plant(seed, houses);
            int answer;
            if (law == 0) {
                int one = riddles < houses ? 1 : planted.years(1, 1);
                answer = one == 0 && planted.numberings() == 0 ? 1 : one;
            } else if (law == 1) {
                int looks = planted.looks(0);
                answer = looks == SPENT ? SPENT : looks < houses ? 1 : 0;
            } else {
                int knot = planted.knot();
                answer = knot == SPENT ? SPENT : knot == NONE || Integer.bitCount(knot) <= 2 ? 1 : 0;
            }
            if (answer == SPENT) {
                due[2]++;
            } else if (answer == 0) {
                due[0]++;
                due[1] = due[1] == NONE ? seed : due[1];
            }
        }
        return due;
    }

    private static void fortySeeds() {
        Check.says("of how many one doesn't hold (what 0), the least seed (1; NONE: it holds of all), how many are SPENT (2)");
        String[] texts = {"most 2;", "most 3;", "most 9;unlike;", "most 11;unlike;", "most 20;"};
        for (String text : texts) {
            for (int law = 0; law < 3; law++) {
                for (int houses = 1; houses <= 8; houses++) {
                    RiddleDoors doors = Check.street(text);
                    tried(doors, law, 40, houses, oneByOne(text, law, 40, houses));
                }
                RiddleDoors doors = Check.street(text);
                tried(doors, law, 39, 4, oneByOne(text, law, 39, 4));
                tried(doors, law, 1, 4, oneByOne(text, law, 1, 4));
            }
        }
    }

    private static void leastSeed() {
        Check.says("LAWS are tried on STREETS BY SEEDS 0, 1 ..");
        RiddleDoors doors = Check.street("most 3;");
        // Only seed 11 breaks this law.
        tried(doors, 2, 11, 4, 0, NONE, 0);
        tried(doors, 2, 12, 4, 1, 11, 0);
        tried(doors, 2, 40, 4, 1, 11, 0);
        // Seed 4: 'here=c' and 'not here=of 0'
        tried(doors, 0, 4, 2, 0, NONE, 0);
        tried(doors, 0, 5, 2, 1, 4, 0);
        // Seed 0: a house without a riddle must be looked at.
        tried(doors, 1, 1, 1, 1, 0, 0);
    }

    private static void oneNumberingOrNone() {
        Check.says("0 each of which all HOUSES have a RIDDLE has one NUMBERING, or none (asked as just one is)");
        // Seed 4, of two houses: 'here=c', 'not here=of 0': one numbering by two numbers, two by three
        tried(Check.street("most 2;"), 0, 40, 2, 0, NONE, 0);
        RiddleDoors three = Check.street("most 3;");
        tried(three, 0, 5, 2, 1, 4, 0);
        Check.due("riddles of seed 4", three.plant(4, 2), 2);
        Check.due("numberings of seed 4", three.numberings(), 2);
        // One house with a riddle has just one.
        tried(Check.street("most 20;"), 0, 40, 1, 0, NONE, 0);
    }

    private static void notAllHaveARiddle() {
        Check.says("0 each of which all HOUSES have a RIDDLE");
        RiddleDoors doors = Check.street("most 20;");
        Check.due("seed 0 has no riddle", doors.plant(0, 1), 0);
        Check.due("twenty numberings", doors.numberings(), 20);
        tried(doors, 0, 1, 1, 0, NONE, 0);
        Check.due("of eight not all have one", doors.plant(0, 8) < 8, true);
        tried(doors, 0, 1, 8, 0, NONE, 0);
    }

    private static void fewerLooks() {
        Check.says("1 fewer LOOKS than there are HOUSES are needed");
        RiddleDoors doors = Check.street("most 2;");
        int broken = 0;
        for (int seed = 0; seed < 40; seed++) {
            doors.plant(seed, 2);
            broken += doors.looks(0) == 2 ? 1 : 0;
        }
        Check.due("some need two looks", broken, 8);
        tried(doors, 1, 40, 2, 8, 0, 0);
        // Without numberings no look is needed.
        tried(Check.street("most 2;unlike;"), 1, 40, 3, 0, NONE, 0);
    }

    private static void moreThanForty() {
        Check.says("how many are SPENT by it (they are none of these)");
        // Seed 0 of two houses: no riddles, 36 numberings of six numbers, 49 of seven
        RiddleDoors six = Check.street("most 6;");
        Check.due("riddles of seed 0", six.plant(0, 2), 0);
        tried(six, 1, 1, 2, 1, 0, 0);
        tried(Check.street("most 7;"), 1, 1, 2, 0, NONE, 1);
        // Seed 11 of four: 40 numberings of eight numbers
        RiddleDoors eight = Check.street("most 8;");
        Check.due("riddles of seed 11", eight.plant(11, 4), 3);
        Check.due("numberings of seed 11", eight.numberings(), 40);
        Check.due("it is not spent", eight.tried(1, 12, 4, 2), eight.tried(1, 11, 4, 2));
    }

    private static void twoAtMost() {
        Check.says("2 a KNOT, if there is one, is of two HOUSES at most");
        RiddleDoors doors = Check.street("most 3;");
        int ofTwo = 0;
        for (int seed = 0; seed < 40; seed++) {
            doors.plant(seed, 4);
            ofTwo += doors.knot() > 0 && Integer.bitCount(doors.knot()) == 2 ? 1 : 0;
        }
        Check.due("there are some of two", ofTwo > 0, true);
        doors.plant(11, 4);
        Check.due("seed 11's is of three", Integer.bitCount(doors.knot()), 3);
        tried(doors, 2, 40, 4, 1, 11, 0);
        // An empty knot is of no house.
        tried(Check.street("most 2;unlike;"), 2, 40, 3, 0, NONE, 0);
    }

    private static void spentBySomeLaw() {
        Check.says("how many are SPENT by it");
        tried(Check.street("most 11;unlike;"), 0, 40, 8, 0, NONE, 1);
        tried(Check.street("most 7;unlike;"), 2, 40, 8, 0, NONE, 40);
        tried(Check.street("most 20;"), 1, 40, 2, 0, NONE, 17);
    }

    private static void streetStays() {
        Check.says("(MOST, UNLIKE as now; the STREET that is stays)");
        RiddleDoors doors = Check.street("most 3;unlike;house 1 2 says here=1;house;");
        doors.become(0, 0, 3);
        doors.letter(1, 2);
        doors.walk(3, 1, 1);
        doors.image();
        String before = Check.written(doors);
        for (int law = 0; law < 3; law++) {
            doors.tried(law, 40, 8, 0);
            Check.same("written", Check.written(doors), before);
            Check.due("numberings", doors.numberings(), 1);
            Check.due("acts", doors.count(3), 1);
            Check.due("letters", doors.count(4), 1);
            Check.due("the walk", doors.door(-1), 2);
            Check.due("the image", doors.restore(), true);
        }
    }

    private static void wrongLaws() {
        Check.says("NoSuchElementException: another LAW, what.");
        RiddleDoors doors = new RiddleDoors();
        for (int wrong : new int[] {-1, 3, MIN, MAX}) {
            Check.throwsDue("tried(" + wrong + ", 1, 1, 0)", Check.NSE, () -> doors.tried(wrong, 1, 1, 0));
            Check.throwsDue("tried(0, 1, 1, " + wrong + ")", Check.NSE, () -> doors.tried(0, 1, 1, wrong));
            Check.throwsDue("ahead of seeds", Check.NSE, () -> doors.tried(wrong, 41, 1, 0));
            Check.throwsDue("ahead of houses", Check.NSE, () -> doors.tried(wrong, 1, 9, 0));
            Check.throwsDue("ahead of seeds", Check.NSE, () -> doors.tried(0, -1, 1, wrong));
            Check.throwsDue("ahead of houses", Check.NSE, () -> doors.tried(0, 1, 0, wrong));
        }
    }

    private static void wrongSeeds() {
        Check.says("IllegalArgumentException (behind that): seeds, not 1 to 8 HOUSES.");
        RiddleDoors doors = new RiddleDoors();
        for (int law = 0; law < 3; law++) {
            int asked = law;
            for (int seeds : new int[] {-1, 41, MIN, MAX}) {
                Check.throwsDue("tried(., " + seeds + ", 1, 0)", Check.IAE, () -> doors.tried(asked, seeds, 1, 0));
            }
            for (int houses : new int[] {0, 9, -1, MIN, MAX}) {
                Check.throwsDue("tried(., 1, " + houses + ", 0)", Check.IAE, () -> doors.tried(asked, 1, houses, 2));
                Check.throwsDue("tried(., 0, " + houses + ", 0)", Check.IAE, () -> doors.tried(asked, 0, houses, 0));
            }
        }
    }
}
