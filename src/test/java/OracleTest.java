import java.util.Random;
import java.util.function.LongSupplier;

/** Runs of calls by seeds, on RiddleDoors and on the oracle: each must answer, or throw, as the other. */
public final class OracleTest {
    private final Random random;
    private final Riddler riddler;
    private final RiddleDoors doors = new RiddleDoors();
    private final Oracle oracle = new Oracle();
    private final StringBuilder run = new StringBuilder();

    private OracleTest(long seed) {
        random = new Random(seed);
        riddler = new Riddler(seed);
    }

    public static void main(String[] args) {
        int runs = args.length > 0 ? Integer.parseInt(args[0]) : 150;
        long first = args.length > 1 ? Long.parseLong(args[1]) : 0;
        for (long seed = first; seed < first + runs; seed++) {
            new OracleTest(seed).go(seed);
        }
        for (long seed = first; seed < first + 20L * runs; seed++) {
            faults(seed);
        }
        Check.end();
    }

    private static void faults(long seed) {
        Riddler riddler = new Riddler(seed);
        RiddleDoors doors = new RiddleDoors();
        for (int i = 0; i < 5; i++) {
            String text = i == 0 ? riddler.scraps() : riddler.spoilt();
            int kind = 0;
            int place = RiddleDoors.NONE;
            try {
                Oracle.parsed(text);
            } catch (Oracle.Fault f) {
                kind = f.kind;
                place = f.place;
            }
            Check.due("street of " + text, Check.tell(doors, text), kind);
            Check.due("fault of " + text, doors.fault(), place);
        }
    }

    private static String oracleOutcome(LongSupplier call) {
        return Check.outcome(() -> {
            try {
                return call.getAsLong();
            } catch (Oracle.Spent s) {
                return Oracle.SPENT;
            }
        });
    }

    private void both(String call, LongSupplier one, LongSupplier other) {
        run.append(call).append(' ');
        Check.same(call + " behind " + run, Check.outcome(one), oracleOutcome(other));
    }

    private int house() {
        return random.nextInt(12) == 0 ? random.nextInt(12) - 2 : random.nextInt(Math.max(1, oracle.now.homes.size()));
    }

    private int what(int below) {
        return random.nextInt(12) == 0 ? random.nextInt(5) - 1 : random.nextInt(below);
    }

    private int number() {
        return random.nextInt(12) == 0 ? random.nextInt(30) - 3 : 1 + random.nextInt(oracle.now.most);
    }

    private void go(long seed) {
        run.append("run ").append(seed).append(": ");
        for (int i = 0; i < 45; i++) {
            if (i % 15 == 0) {
                newStreet();
            }
            change();
            ask();
        }
        both("text", () -> Check.written(doors).hashCode(), () -> oracle.text().hashCode());
    }

    private void newStreet() {
        if (random.nextInt(4) == 0) {
            int seed = random.nextInt();
            int houses = random.nextInt(10);
            both("plant(" + seed + ", " + houses + ")", () -> doors.plant(seed, houses), () -> oracle.plant(seed, houses));
            return;
        }
        String text = random.nextInt(5) == 0 ? riddler.spoilt() : riddler.street();
        for (int at = 0; at < text.length(); at += 20) {
            int[] five = new int[5];
            for (int i = 0; i < 20; i++) {
                int b = at + i < text.length() ? text.charAt(at + i) & 255 : random.nextInt(256);
                five[i / 4] |= b << 24 - 8 * (i % 4);
            }
            both("feed", () -> doors.feed(five[0], five[1], five[2], five[3], five[4]), () -> oracle.feed(five));
        }
        int n = random.nextInt(20) == 0 ? random.nextInt(600) - 20 : text.length();
        both("street(" + n + ") of " + text, () -> doors.street(n), () -> oracle.street(n));
        both("fault", doors::fault, () -> oracle.faultPlace);
    }

    private void change() {
        int house = house();
        int what = what(2);
        switch (random.nextInt(13)) {
            case 0:
            case 1:
                int v = random.nextInt(8) == 0 ? random.nextInt(130) - 15 : random.nextInt(12);
                both("become(" + house + ", " + what + ", " + v + ")", () -> doors.become(house, what, v),
                    () -> oracle.become(house, what, v));
                break;
            case 2:
            case 3:
                boolean muted = random.nextInt(3) != 0;
                both("mute(" + house + ", " + muted + ")", () -> doors.mute(house, muted) ? 1 : 0,
                    () -> oracle.mute(house, muted));
                break;
            case 4:
                both("undo", doors::undo, oracle::undo);
                break;
            case 5:
                int number = number();
                both("letter(" + house + ", " + number + ")", () -> doors.letter(house, number),
                    () -> oracle.letter(house, number));
                break;
            case 6:
                both("unletter", doors::unletter, oracle::unletter);
                break;
            case 7:
                run.append("image ");
                doors.image();
                oracle.image();
                break;
            case 8:
                both("restore", () -> doors.restore() ? 1 : 0, oracle::restore);
                break;
            default:
                break;
        }
    }

    private void ask() {
        for (int i = 0; i < 9; i++) {
            int count = i;
            both("count(" + i + ")", () -> doors.count(count), () -> oracle.count(count));
        }
        int house = house();
        int number = number();
        int two = what(2);
        int three = what(3);
        switch (random.nextInt(5)) {
            case 0:
                askOfHouse(house, number, two, three);
                break;
            case 1:
                askOfLooks(number, two, three);
                break;
            case 2:
                askOfSets(house, two);
                break;
            case 3:
                askOfTrials(house, two, three);
                break;
            default:
                askOfNumberings(house, number);
                break;
        }
    }

    private void askOfNumberings(int house, int number) {
        both("numberings", doors::numberings, oracle::numberings);
        both("tries", doors::tries, oracle::tries);
        int i = random.nextInt(5) - 1;
        both("number(" + i + ", " + house + ")", () -> doors.number(i, house), () -> oracle.number(i, house));
        both("may(" + house + ")", () -> doors.may(house), () -> oracle.may(house));
        both("left(" + house + ", " + number + ")", () -> doors.left(house, number), () -> oracle.left(house, number));
        long row = 0;
        for (int h = 7; h >= 0; h--) {
            row = row * 32 + 1 + random.nextInt(random.nextInt(30) == 0 ? 31 : oracle.now.most);
        }
        long given = random.nextInt(30) == 0 ? -row : row;
        both("holds(" + house + ", " + given + ")", () -> doors.holds(house, given), () -> oracle.holds(house, given));
    }

    private void askOfHouse(int house, int number, int two, int three) {
        int five = what(5);
        both("house(" + house + ", " + five + ")", () -> doors.house(house, five), () -> oracle.house(house, five));
        both("post(" + house + ", " + number + ")", () -> doors.post(house, number), () -> oracle.post(house, number));
        both("ring(" + house + ", " + two + ")", () -> doors.ring(house, two), () -> oracle.ring(house, two));
        both("look(" + house + ", " + three + ")", () -> doors.look(house, three), () -> oracle.look(house, three));
        int i = random.nextInt(300) - 2;
        both("written(" + i + ")", () -> doors.written(i), () -> oracle.written(i));
    }

    private void askOfLooks(int number, int two, int three) {
        both("looks(" + two + ")", () -> doors.looks(two), () -> oracle.looks(two));
        both("doors", doors::doors, oracle::doors);
        int i = random.nextInt(9) - 1;
        both("hints(" + i + ")", () -> doors.hints(i), () -> oracle.hints(i));
        int bits = random.nextInt(8) == 0 ? random.nextInt() : random.nextInt(1 << oracle.now.homes.size());
        int crossing = random.nextInt(12) - 1;
        both("walk(" + bits + ", " + number + ", " + crossing + ")", () -> doors.walk(bits, number, crossing),
            () -> oracle.walk(bits, number, crossing));
        for (int k = -2; k < 11; k++) {
            int at = k;
            both("door(" + k + ")", () -> doors.door(at), () -> oracle.door(at));
        }
    }

    private void askOfSets(int house, int two) {
        both("knot", doors::knot, oracle::knot);
        both("liars", doors::liars, oracle::liars);
        both("proof(" + house + ")", () -> doors.proof(house), () -> oracle.proof(house));
        int other = house();
        both("feud(" + house + ", " + other + ", " + two + ")", () -> doors.feud(house, other, two),
            () -> oracle.feud(house, other, two));
    }

    private void askOfTrials(int house, int two, int three) {
        int seed = random.nextInt();
        int years = random.nextInt(34) - 2;
        both("years(" + seed + ", " + years + ")", () -> doors.years(seed, years), () -> oracle.years(seed, years));
        both("build(" + two + ")", () -> doors.build(two), () -> oracle.build(two));
        int which = what(2);
        int v = random.nextInt(8) == 0 ? random.nextInt(130) - 15 : random.nextInt(12);
        both("changed(" + house + ", " + which + ", " + v + ", " + two + ")", () -> doors.changed(house, which, v, two),
            () -> oracle.changed(house, which, v, two));
        if (random.nextInt(3) == 0) {
            int law = what(3);
            int seeds = random.nextInt(6) == 0 ? random.nextInt(50) - 5 : random.nextInt(8);
            int houses = random.nextInt(6) == 0 ? random.nextInt(11) - 1 : 1 + random.nextInt(4);
            both("tried(" + law + ", " + seeds + ", " + houses + ", " + three + ")",
                () -> doors.tried(law, seeds, houses, three), () -> oracle.tried(law, seeds, houses, three));
        }
    }
}
