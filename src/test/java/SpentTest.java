import java.util.Random;
import java.util.function.LongSupplier;

/** Streets by seeds that are large enough to be spent by some questions, and not by others: each answer as the oracle's. */
public final class SpentTest {
    private final Random random;
    private final RiddleDoors doors = new RiddleDoors();
    private final Oracle oracle = new Oracle();
    private final int houses;
    private final int most;
    private String text = "";

    private SpentTest(long seed) {
        random = new Random(seed);
        houses = 3 + random.nextInt(6);
        // So that all numbers of all houses are some thousands to some ten thousands of tries
        int[] least = {0, 0, 0, 9, 9, 5, 4, 2, 2};
        int[] more = {0, 0, 0, 12, 12, 8, 5, 6, 6};
        most = least[houses] + random.nextInt(more[houses]);
    }

    public static void main(String[] args) {
        int runs = args.length > 0 ? Integer.parseInt(args[0]) : 80;
        long first = args.length > 1 ? Long.parseLong(args[1]) : 0;
        for (long seed = first; seed < first + runs; seed++) {
            new SpentTest(seed).go();
        }
        Check.end();
    }

    private int someHouse() {
        return random.nextInt(houses);
    }

    private int someNumber() {
        return 1 + random.nextInt(most);
    }

    private String riddle() {
        switch (random.nextInt(10)) {
            case 0:
            case 1:
                return "here<" + (someNumber() + random.nextInt(2));
            case 2:
                return random.nextInt(most) + "<here";
            case 3:
                return "of " + someHouse() + "=" + someNumber();
            case 4:
                return "not here=of " + someHouse();
            case 5:
                return "here<of " + someHouse() + "+" + random.nextInt(3);
            case 6:
                return several();
            case 7:
                return "(of 0-1)*" + most * most + "+(of 1-1)*" + most + "+of 2<" + random.nextInt(most * most * most + 1);
            case 8:
                return all() + (random.nextBoolean() ? "=" : "<") + (houses + random.nextInt(houses * most - houses + 1));
            default:
                return "sons<here or of " + someHouse() + "=" + someNumber();
        }
    }

    private String several() {
        StringBuilder several = new StringBuilder("here");
        int count = 3 + random.nextInt(2);
        for (int i = 0; i < count; i++) {
            several.append(" and of ").append(someHouse()).append('=').append(someNumber());
        }
        return several.toString();
    }

    private String all() {
        StringBuilder all = new StringBuilder("of 0");
        for (int h = 1; h < houses; h++) {
            all.append("+of ").append(h);
        }
        return all.toString();
    }

    private void write() {
        StringBuilder street = new StringBuilder("most " + most + ";" + (random.nextInt(4) == 0 ? "unlike;" : ""));
        for (int h = 0; h < houses; h++) {
            street.append("house ").append(random.nextInt(10));
            street.append(random.nextInt(5) == 0 ? "" : " says " + riddle()).append(';');
        }
        text = street.toString();
    }

    private void both(String call, LongSupplier one, LongSupplier other) {
        Check.same(call + " of " + text, Check.outcome(one), Check.outcome(() -> {
            try {
                return other.getAsLong();
            } catch (Oracle.Spent spent) {
                return Oracle.SPENT;
            }
        }));
    }

    private void go() {
        do {
            write();
        } while (text.length() > 500);
        Check.due("street of " + text, Check.tell(doors, text), 0);
        oracle.now = Oracle.parsed(text);
        both("numberings", doors::numberings, oracle::numberings);
        both("tries", doors::tries, oracle::tries);
        both("knot", doors::knot, oracle::knot);
        both("liars", doors::liars, oracle::liars);
        for (int h = 0; h < houses; h++) {
            int house = h;
            both("proof(" + h + ")", () -> doors.proof(house), () -> oracle.proof(house));
            both("may(" + h + ")", () -> doors.may(house), () -> oracle.may(house));
        }
        int seed = random.nextInt();
        both("years(" + seed + ", 5)", () -> doors.years(seed, 5), () -> oracle.years(seed, 5));
        for (int i = 0; i < 2; i++) {
            int what = i;
            both("build(" + i + ")", () -> doors.build(what), () -> oracle.build(what));
            both("looks(" + i + ")", () -> doors.looks(what), () -> oracle.looks(what));
            askOfTwo(what);
        }
        both("doors", doors::doors, oracle::doors);
        both("hints(5)", () -> doors.hints(5), () -> oracle.hints(5));
        askOfAWalk();
    }

    private void askOfTwo(int what) {
        int first = someHouse();
        int second = someHouse();
        int v = random.nextInt(10);
        both("feud(" + first + ", " + second + ", " + what + ")", () -> doors.feud(first, second, what),
            () -> oracle.feud(first, second, what));
        both("changed(" + first + ", 0, " + v + ", " + what + ")", () -> doors.changed(first, 0, v, what),
            () -> oracle.changed(first, 0, v, what));
        both("look(" + second + ", " + (1 + what) + ")", () -> doors.look(second, 1 + what), () -> oracle.look(second, 1 + what));
    }

    private void askOfAWalk() {
        int bits = random.nextInt(1 << houses);
        int place = someNumber();
        int crossing = random.nextInt(10);
        both("walk(" + bits + ", " + place + ", " + crossing + ")", () -> doors.walk(bits, place, crossing),
            () -> oracle.walk(bits, place, crossing));
        for (int i = -1; i < 11; i++) {
            int at = i;
            both("door(" + i + ")", () -> doors.door(at), () -> oracle.door(at));
        }
    }
}
