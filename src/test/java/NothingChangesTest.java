import java.util.ArrayList;
import java.util.List;
import java.util.function.ToLongFunction;

/** What only asks, what is refused, and what throws leaves all as it was (a refused text, act or letter but for STATUS). */
public final class NothingChangesTest {
    private static final int[] EDGES = {Integer.MIN_VALUE, -2, -1, 0, 1, 2, 3, 5, 6, 8, 9, 10, 30, 31, 40, 41, 99, 100, Integer.MAX_VALUE};

    private final List<String> names = new ArrayList<>();
    private final List<ToLongFunction<RiddleDoors>> calls = new ArrayList<>();

    public static void main(String[] args) {
        NothingChangesTest test = new NothingChangesTest();
        test.asking();
        test.compare(true);
        test = new NothingChangesTest();
        test.refused();
        test.compare(false);
        refusedStreets();
        Check.end();
    }

    /** Something of everything: acts, what is muted, letters, an image, a walk, a tape, faults and what was refused. */
    private static RiddleDoors rich() {
        RiddleDoors doors = new RiddleDoors();
        Check.tell(doors, "most 5;house 1 2 says here<4 and here<after;house 3 4 says here<of 2 or sons=9;house;house says here=debts+1;");
        Check.tell(doors, "house; x");
        doors.become(0, 0, 7);
        doors.become(0, 0, 100);
        doors.mute(1, true);
        doors.letter(2, 4);
        doors.letter(2, 6);
        doors.image();
        doors.become(1, 1, 8);
        doors.mute(1, false);
        doors.unletter();
        doors.letter(1, 3);
        doors.walk(5, 2, 3);
        Check.feed(doors, "most 6;house says 1;");
        return doors;
    }

    private static void houses(RiddleDoors doors, StringBuilder to) {
        for (int h = 0; h < doors.count(0); h++) {
            for (int what = 0; what < 5; what++) {
                to.append(doors.house(h, what)).append(' ');
            }
            to.append(doors.may(h)).append(' ');
        }
        to.append(doors.numberings()).append(' ').append(doors.tries()).append('\n');
    }

    /** All that can be seen of it; it is used up by that. */
    private static String all(RiddleDoors doors, boolean withStatus) {
        StringBuilder all = new StringBuilder();
        for (int what = 0; what < (withStatus ? 9 : 6); what++) {
            all.append(doors.count(what)).append(' ');
        }
        all.append(doors.fault()).append(' ').append(Check.written(doors)).append('\n');
        int walked = doors.door(-1);
        for (int i = 0; i < walked; i++) {
            all.append(doors.door(i)).append(' ');
        }
        for (int times = 0; times < 2; times++) {
            houses(doors, all);
            while (doors.count(4) > 0) {
                all.append(doors.unletter()).append(": ");
                houses(doors, all);
            }
            while (doors.count(3) > 0) {
                all.append(doors.undo()).append(": ");
                houses(doors, all);
            }
            all.append(doors.restore()).append(": ");
        }
        all.append(doors.street(20)).append(' ').append(Check.written(doors));
        return all.toString();
    }

    private void add(String name, ToLongFunction<RiddleDoors> call) {
        names.add(name);
        calls.add(call);
    }

    private void asking() {
        add("fault()", d -> d.fault());
        add("numberings()", d -> d.numberings());
        add("tries()", d -> d.tries());
        add("knot()", d -> d.knot());
        add("liars()", d -> d.liars());
        add("doors()", d -> d.doors());
        for (int a : EDGES) {
            add("count(" + a + ")", d -> d.count(a));
            add("may(" + a + ")", d -> d.may(a));
            add("holds(" + a + ", .)", d -> d.holds(a, 1 + 32 * (2 + 32 * (3 + 32 * 4))));
            add("holds(0, " + a + ")", d -> d.holds(0, a));
            add("looks(" + a + ")", d -> d.looks(a));
            add("hints(" + a + ")", d -> d.hints(a));
            add("proof(" + a + ")", d -> d.proof(a));
            add("build(" + a + ")", d -> d.build(a));
            add("door(" + a + ")", d -> d.door(a));
            add("written(" + a + ")", d -> d.written(a));
            add("changed(0, 0, " + a + ", 0)", d -> d.changed(0, 0, a, 0));
            add("changed(1, 1, " + a + ", 1)", d -> d.changed(1, 1, a, 1));
            for (int b : EDGES) {
                add("house(" + a + ", " + b + ")", d -> d.house(a, b));
                add("number(" + a + ", " + b + ")", d -> d.number(a, b));
                add("post(" + a + ", " + b + ")", d -> d.post(a, b));
                add("feud(" + a + ", " + b + ", 0)", d -> d.feud(a, b, 0));
                add("feud(0, " + a + ", " + b + ")", d -> d.feud(0, a, b));
                add("years(" + a + ", " + b + ")", d -> d.years(a, b));
                add("changed(" + a + ", " + b + ", 9, 0)", d -> d.changed(a, b, 9, 0));
                add("ring(" + a + ", " + b + ")", d -> d.ring(a, b));
                add("left(" + a + ", " + b + ")", d -> d.left(a, b));
                add("look(" + a + ", " + b + ")", d -> d.look(a, b));
                add("tried(" + a + ", " + b + ", 4, 0)", d -> d.tried(a, b, 4, 0));
                add("tried(0, 3, " + a + ", " + b + ")", d -> d.tried(0, 3, a, b));
            }
        }
        for (int wrong : new int[] {Integer.MIN_VALUE, -1, 21, 500, Integer.MAX_VALUE}) {
            add("street(" + wrong + ")", d -> d.street(wrong));
        }
        for (int houses : new int[] {Integer.MIN_VALUE, -1, 0, 9, Integer.MAX_VALUE}) {
            add("plant(1, " + houses + ")", d -> d.plant(1, houses));
        }
        for (int bits : new int[] {Integer.MIN_VALUE, -1, 16, 31, Integer.MAX_VALUE}) {
            add("walk(" + bits + ", 1, 0)", d -> d.walk(bits, 1, 0));
        }
        for (int place : new int[] {Integer.MIN_VALUE, -1, 0, 6, Integer.MAX_VALUE}) {
            add("walk(1, " + place + ", 0)", d -> d.walk(1, place, 0));
        }
        for (int crossing : new int[] {Integer.MIN_VALUE, -1, 10, Integer.MAX_VALUE}) {
            add("walk(1, 1, " + crossing + ")", d -> d.walk(1, 1, crossing));
        }
        for (int house : new int[] {Integer.MIN_VALUE, -1, 4, Integer.MAX_VALUE}) {
            add("become(" + house + ", 0, 5)", d -> d.become(house, 0, 5));
            add("become(0, " + house + ", 5)", d -> d.become(0, house, 5));
            add("mute(" + house + ", true)", d -> d.mute(house, true) ? 1 : 0);
            add("letter(" + house + ", 1)", d -> d.letter(house, 1));
        }
    }

    private void refused() {
        for (int v : new int[] {Integer.MIN_VALUE, -1, 100, Integer.MAX_VALUE}) {
            add("become(0, 0, " + v + ")", d -> d.become(0, 0, v));
            add("become(1, 1, " + v + ")", d -> d.become(1, 1, v));
            add("letter(0, " + v + ")", d -> d.letter(0, v));
        }
        add("letter(0, 0)", d -> d.letter(0, 0));
        add("letter(0, 6)", d -> d.letter(0, 6));
        add("mute(0, false)", d -> d.mute(0, false) ? 1 : 0);
        add("mute(1, false)", d -> d.mute(1, false) ? 1 : 0);
        add("mute(2, true)", d -> d.mute(2, true) ? 1 : 0);
        add("mute(2, false)", d -> d.mute(2, false) ? 1 : 0);
    }

    private void compare(boolean withStatus) {
        Check.says("(nothing changes), (Nothing is done.)");
        String due = all(rich(), withStatus);
        for (int i = 0; i < calls.size(); i++) {
            RiddleDoors doors = rich();
            ToLongFunction<RiddleDoors> call = calls.get(i);
            String answer = Check.outcome(() -> call.applyAsLong(doors));
            Check.same(names.get(i) + ", asked again", Check.outcome(() -> call.applyAsLong(doors)), answer);
            Check.same("all behind " + names.get(i), all(doors, withStatus), due);
        }
    }

    /** A text with a fault leaves all but the tape, the fault and STATUS; a full tape takes no more. */
    private static void refusedStreets() {
        Check.says("0, or the FAULT (all stays)");
        String[] faults = {"x", "most 1;", "most 3;unlike;house 9 9 says here=1;house says x;", "house;".repeat(9), "house says ((((((1"};
        for (String text : faults) {
            RiddleDoors one = rich();
            RiddleDoors other = rich();
            one.street(0);
            other.street(0);
            one = again(one);
            other = again(other);
            Check.due("a fault of " + text, Check.tell(other, text) > 0, true);
            Check.due("status 0", other.count(6), one.count(6) + 1);
            Check.tell(one, "x");
            Check.tell(other, "x");
            Check.feed(one, "most 7;house says 2;");
            Check.feed(other, "most 7;house says 2;");
            Check.same("all behind a fault of " + text, all(other, false), all(one, false));
        }
    }

    private static RiddleDoors again(RiddleDoors doors) {
        Check.tell(doors, "most 4;unlike;house 5 6 says here=sons-4;house says here<3;");
        doors.become(1, 0, 44);
        doors.letter(1, 2);
        doors.image();
        doors.mute(0, true);
        doors.walk(3, 1, 2);
        return doors;
    }
}
