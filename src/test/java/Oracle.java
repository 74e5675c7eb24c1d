import java.util.ArrayList;
import java.util.Arrays;
import java.util.HashMap;
import java.util.List;
import java.util.Map;
import java.util.NoSuchElementException;
import java.util.TreeMap;
import java.util.TreeSet;
import java.util.regex.Matcher;
import java.util.regex.Pattern;

/** The document once more, in the plainest form and with the whole library, to be compared with RiddleDoors. */
final class Oracle {
    static final int NONE = -1;
    static final int SPENT = -2;

    static final class Spent extends RuntimeException {
        private static final long serialVersionUID = 1L;
    }

    static final class Fault extends RuntimeException {
        private static final long serialVersionUID = 1L;
        final int kind;
        final int place;

        Fault(int kind, int place) {
            super("fault " + kind + " at " + place, null, false, false);
            this.kind = kind;
            this.place = place;
        }
    }

    /** A part of a riddle: what it is worth, and at which houses it looks. */
    interface Node {
        int value(World world, int[] numbers);

        void looks(World world, TreeSet<Integer> at);
    }

    static final class Home {
        int sons;
        int debts;
        boolean muted;
        Node riddle;
        List<String> tokens = new ArrayList<>();

        Home copy() {
            Home h = new Home();
            h.sons = sons;
            h.debts = debts;
            h.muted = muted;
            h.riddle = riddle;
            h.tokens = tokens;
            return h;
        }
    }

    static final class World {
        int most = 9;
        boolean unlike;
        List<Home> homes = new ArrayList<>();
        List<int[]> letters = new ArrayList<>();
        List<int[]> acts = new ArrayList<>();

        World copy() {
            World w = new World();
            w.most = most;
            w.unlike = unlike;
            for (Home h : homes) {
                w.homes.add(h.copy());
            }
            w.letters.addAll(letters);
            w.acts.addAll(acts);
            return w;
        }

        TreeSet<Integer> looksAt(int house) {
            TreeSet<Integer> at = new TreeSet<>();
            if (homes.get(house).riddle != null) {
                homes.get(house).riddle.looks(this, at);
            }
            return at;
        }

        int speaking() {
            int bits = 0;
            for (int h = 0; h < homes.size(); h++) {
                if (homes.get(h).riddle != null && !homes.get(h).muted) {
                    bits |= 1 << h;
                }
            }
            return bits;
        }
    }

    World now = new World();
    World image = null;
    byte[] tape = new byte[0];
    int faultPlace = NONE;
    int[] refused = new int[3];
    List<Integer> walk = null;

    // ---- texts

    private static final Pattern TOKEN = Pattern.compile("[a-z]+|[0-9]+|[;()+\\-*/<=]");

    static final class Parse {
        final String text;
        final World world = new World();
        final List<String> tokens = new ArrayList<>();
        final List<Integer> places = new ArrayList<>();
        int at = 0;
        boolean mostTold;
        int house;

        Parse(String text) {
            this.text = text;
            Matcher m = TOKEN.matcher(text);
            int i = 0;
            while (i < text.length()) {
                char c = text.charAt(i);
                if (c == ' ' || c == '\n') {
                    i++;
                } else if (m.find(i) && m.start() == i) {
                    tokens.add(m.group());
                    places.add(i);
                    i = m.end();
                } else {
                    tokens.add("?");
                    places.add(i);
                    i++;
                }
            }
            tokens.add("");
            places.add(text.length());
        }

        String token() {
            return tokens.get(at);
        }

        boolean is(String s) {
            return token().equals(s);
        }

        boolean isNumeral() {
            return token().matches("[0-9]+");
        }

        boolean isWord() {
            return token().matches("[a-z]+");
        }

        Fault fault(int kind) {
            return new Fault(kind, places.get(at));
        }

        int numeral(int low, int high) {
            if (!isNumeral()) {
                throw fault(1);
            }
            if (token().length() > 4) {
                throw fault(2);
            }
            int v = Integer.parseInt(token());
            if (v < low || v > high) {
                throw fault(2);
            }
            at++;
            return v;
        }

        World street() {
            while (!is("")) {
                if (is("most")) {
                    if (mostTold) {
                        throw fault(4);
                    }
                    mostTold = true;
                    at++;
                    world.most = numeral(2, 20);
                } else if (is("unlike")) {
                    if (world.unlike) {
                        throw fault(4);
                    }
                    world.unlike = true;
                    at++;
                } else if (is("house")) {
                    house();
                } else {
                    throw fault(1);
                }
                if (!is(";")) {
                    throw fault(1);
                }
                at++;
            }
            return world;
        }

        void house() {
            if (world.homes.size() == 8) {
                throw fault(2);
            }
            Home home = new Home();
            house = world.homes.size();
            world.homes.add(home);
            at++;
            if (isNumeral()) {
                home.sons = numeral(0, 99);
                if (isNumeral()) {
                    home.debts = numeral(0, 99);
                }
            }
            if (is("says")) {
                at++;
                int from = at;
                home.riddle = or(0);
                home.tokens = new ArrayList<>(tokens.subList(from, at));
            }
        }

        Node or(int within) {
            if (within == 6) {
                throw fault(isNumeral() || isWord() || is("(") ? 2 : 1);
            }
            Node left = and(within);
            while (is("or")) {
                at++;
                left = join("or", left, and(within));
            }
            return left;
        }

        Node and(int within) {
            Node left = not(within, 1);
            while (is("and")) {
                at++;
                left = join("and", left, not(within, 1));
            }
            return left;
        }

        Node not(int within, int which) {
            if (is("not")) {
                if (which == 7) {
                    throw fault(2);
                }
                at++;
                return join("not", not(within, which + 1), constant(0));
            }
            Node left = sum(within);
            if (is("<") || is("=")) {
                String sign = tokens.get(at++);
                left = join(sign, left, sum(within));
            }
            return left;
        }

        Node sum(int within) {
            Node left = product(within);
            while (is("+") || is("-")) {
                String sign = tokens.get(at++);
                left = join(sign, left, product(within));
            }
            return left;
        }

        Node product(int within) {
            Node left = part(within);
            while (is("*") || is("/")) {
                String sign = tokens.get(at++);
                left = join(sign, left, part(within));
            }
            return left;
        }

        Node part(int within) {
            if (isNumeral()) {
                return constant(numeral(0, 9999));
            }
            if (is("(")) {
                at++;
                Node inside = or(within + 1);
                if (!is(")")) {
                    throw fault(1);
                }
                at++;
                return inside;
            }
            if (!isWord()) {
                throw fault(1);
            }
            int me = house;
            switch (token()) {
                case "here":
                    at++;
                    return numberOf(me);
                case "before":
                    at++;
                    return numberOf(me - 1);
                case "after":
                    at++;
                    return numberOf(me + 1);
                case "of":
                    at++;
                    return numberOf(numeral(0, 7));
                case "sons":
                case "debts":
                case "most":
                    return own(tokens.get(at++), me);
                default:
                    throw fault(3);
            }
        }
    }

    static Node constant(int v) {
        return new Node() {
            public int value(World w, int[] numbers) {
                return v;
            }

            public void looks(World w, TreeSet<Integer> at) {
            }
        };
    }

    static Node numberOf(int house) {
        return new Node() {
            public int value(World w, int[] numbers) {
                return house < 0 || house >= w.homes.size() ? 0 : numbers[house];
            }

            public void looks(World w, TreeSet<Integer> at) {
                if (house >= 0 && house < w.homes.size()) {
                    at.add(house);
                }
            }
        };
    }

    static Node own(String what, int house) {
        return new Node() {
            public int value(World w, int[] numbers) {
                Home h = w.homes.get(house);
                return what.equals("sons") ? h.sons : what.equals("debts") ? h.debts : w.most;
            }

            public void looks(World w, TreeSet<Integer> at) {
            }
        };
    }

    static Node join(String sign, Node left, Node right) {
        return new Node() {
            public int value(World w, int[] numbers) {
                int a = left.value(w, numbers);
                int b = right.value(w, numbers);
                switch (sign) {
                    case "or":
                        return a != 0 || b != 0 ? 1 : 0;
                    case "and":
                        return a != 0 && b != 0 ? 1 : 0;
                    case "not":
                        return a != 0 ? 0 : 1;
                    case "<":
                        return a < b ? 1 : 0;
                    case "=":
                        return a == b ? 1 : 0;
                    case "+":
                        return a + b;
                    case "-":
                        return a - b;
                    case "*":
                        return a * b;
                    default:
                        return b == 0 ? 0 : (int) ((long) a / b);
                }
            }

            public void looks(World w, TreeSet<Integer> at) {
                left.looks(w, at);
                right.looks(w, at);
            }
        };
    }

    static World parsed(String text) {
        return new Parse(text).street();
    }

    // ---- searches

    static final class Seek {
        final World w;
        final int riddles;
        final boolean letters;
        final int enough;
        int barHouse = -1;
        int barNumber = -1;
        int tries = 0;
        final List<int[]> found = new ArrayList<>();
        final Map<Integer, List<Integer>> asked = new HashMap<>();

        Seek(World w, int riddles, boolean letters, int enough) {
            this.w = w;
            this.riddles = riddles;
            this.letters = letters;
            this.enough = enough;
            for (int h = 0; h < w.homes.size(); h++) {
                if ((riddles >> h & 1) != 0) {
                    TreeSet<Integer> at = w.looksAt(h);
                    asked.computeIfAbsent(at.isEmpty() ? h : at.last(), k -> new ArrayList<>()).add(h);
                }
            }
        }

        Seek go() {
            give(0, new int[w.homes.size()]);
            return this;
        }

        /** True: enough were found. */
        private boolean give(int house, int[] numbers) {
            if (house == w.homes.size()) {
                found.add(numbers.clone());
                return found.size() == enough;
            }
            for (int v = 1; v <= w.most; v++) {
                if (house == barHouse && v == barNumber) {
                    continue;
                }
                if (++tries > 20000) {
                    throw new Spent();
                }
                numbers[house] = v;
                if (fits(house, numbers) && give(house + 1, numbers)) {
                    return true;
                }
            }
            return false;
        }

        private boolean fits(int house, int[] numbers) {
            if (letters) {
                for (int[] letter : w.letters) {
                    if (letter[0] == house && letter[1] != numbers[house]) {
                        return false;
                    }
                }
            }
            for (int h = 0; w.unlike && h < house; h++) {
                if (numbers[h] == numbers[house]) {
                    return false;
                }
            }
            for (int h : asked.getOrDefault(house, List.of())) {
                if (w.homes.get(h).riddle.value(w, numbers) == 0) {
                    return false;
                }
            }
            return true;
        }
    }

    static Seek all(World w, int riddles) {
        Seek s = new Seek(w, riddles, true, 1001).go();
        if (s.found.size() > 1000) {
            throw new Spent();
        }
        return s;
    }

    static Seek all(World w) {
        return all(w, w.speaking());
    }

    static int bits(List<int[]> found, int house) {
        int may = 0;
        for (int[] f : found) {
            may |= 1 << f[house];
        }
        return may;
    }

    static List<Integer> sets(int of) {
        List<Integer> sets = new ArrayList<>();
        for (int set = 0; set < 256; set++) {
            if ((set | of) == of) {
                sets.add(set);
            }
        }
        sets.sort((a, b) -> Integer.bitCount(a) != Integer.bitCount(b)
            ? Integer.bitCount(a) - Integer.bitCount(b) : a - b);
        return sets;
    }

    static int knotOf(World w) {
        for (int set : sets(w.speaking())) {
            if (new Seek(w, set, false, 1).go().found.isEmpty()) {
                return set;
            }
        }
        return NONE;
    }

    // ---- the face

    void house(int h) {
        if (h < 0 || h >= now.homes.size()) {
            throw new NoSuchElementException();
        }
    }

    static void what(int what, int below) {
        if (what < 0 || what >= below) {
            throw new NoSuchElementException();
        }
    }

    static void demand(boolean good) {
        if (!good) {
            throw new IllegalArgumentException();
        }
    }

    int feed(int... five) {
        if (tape.length + 20 > 500) {
            return NONE;
        }
        int n = tape.length;
        tape = Arrays.copyOf(tape, n + 20);
        for (int i = 0; i < 20; i++) {
            tape[n + i] = (byte) (five[i / 4] >>> 24 - 8 * (i % 4));
        }
        return tape.length;
    }

    int street(int n) {
        demand(n >= 0 && n <= tape.length);
        StringBuilder text = new StringBuilder();
        for (int i = 0; i < n; i++) {
            text.append((char) (tape[i] & 255));
        }
        tape = new byte[0];
        try {
            now = parsed(text.toString());
        } catch (Fault f) {
            faultPlace = f.place;
            refused[0]++;
            return f.kind;
        }
        faultPlace = NONE;
        image = null;
        walk = null;
        return 0;
    }

    int count(int what) {
        what(what, 9);
        int[] counts = {now.homes.size(), now.most, now.unlike ? 1 : 0, now.acts.size(), now.letters.size(), tape.length,
            refused[0], refused[1], refused[2]};
        return counts[what];
    }

    int house(int house, int what) {
        house(house);
        what(what, 5);
        Home h = now.homes.get(house);
        int looks = 0;
        for (int at : now.looksAt(house)) {
            looks |= 1 << at;
        }
        return new int[] {h.sons, h.debts, h.riddle != null ? 1 : 0, h.muted ? 1 : 0, looks}[what];
    }

    private int set(World w, int kind, int house, int v) {
        Home h = w.homes.get(house);
        int old = kind == 0 ? h.sons : kind == 1 ? h.debts : h.muted ? 1 : 0;
        if (kind == 0) {
            h.sons = v;
        } else if (kind == 1) {
            h.debts = v;
        } else {
            h.muted = v == 1;
        }
        return old;
    }

    private int act(int kind, int house, int v) {
        int old = set(now, kind, house, v);
        now.acts.add(new int[] {kind, house, old});
        if (now.acts.size() > 30) {
            now.acts.remove(0);
        }
        return old;
    }

    int become(int house, int what, int v) {
        house(house);
        what(what, 2);
        if (v < 0 || v > 99) {
            refused[1]++;
            return NONE;
        }
        return act(what, house, v);
    }

    int mute(int house, boolean muted) {
        house(house);
        Home h = now.homes.get(house);
        if (h.riddle == null || h.muted == muted) {
            refused[1]++;
            return 0;
        }
        act(2, house, muted ? 1 : 0);
        return 1;
    }

    int undo() {
        if (now.acts.isEmpty()) {
            return NONE;
        }
        int[] a = now.acts.remove(now.acts.size() - 1);
        set(now, a[0], a[1], a[2]);
        return now.acts.size();
    }

    int letter(int house, int number) {
        house(house);
        if (now.letters.size() == 10 || number < 1 || number > now.most) {
            refused[2]++;
            return NONE;
        }
        now.letters.add(new int[] {house, number});
        return now.letters.size();
    }

    int unletter() {
        if (now.letters.isEmpty()) {
            return NONE;
        }
        now.letters.remove(now.letters.size() - 1);
        return now.letters.size();
    }

    int numberings() {
        return all(now).found.size();
    }

    int tries() {
        return all(now).tries;
    }

    int number(int i, int house) {
        house(house);
        List<int[]> found;
        try {
            found = all(now).found;
        } catch (Spent s) {
            throw new NoSuchElementException();
        }
        what(i, found.size());
        return found.get(i)[house];
    }

    int may(int house) {
        house(house);
        return bits(all(now).found, house);
    }

    int holds(int house, long row) {
        house(house);
        demand(row >= 0);
        int[] numbers = new int[now.homes.size()];
        for (int h = 0; h < numbers.length; h++) {
            numbers[h] = (int) (row / Math.pow(32, h) % 32);
            demand(numbers[h] >= 1 && numbers[h] <= now.most);
        }
        Node riddle = now.homes.get(house).riddle;
        return riddle == null ? NONE : riddle.value(now, numbers) != 0 ? 1 : 0;
    }

    int knot() {
        return knotOf(now);
    }

    int liars() {
        for (int set : sets(now.speaking())) {
            if (new Seek(now, now.speaking() & ~set, true, 2).go().found.size() == 1) {
                return set;
            }
        }
        return NONE;
    }

    static List<int[]> few(World w) {
        List<int[]> found = all(w).found;
        if (found.size() > 40) {
            throw new Spent();
        }
        return found;
    }

    static int[] looksOf(List<int[]> found, int houses, Map<String, int[]> known) {
        if (found.size() < 2) {
            return new int[] {0, NONE};
        }
        StringBuilder key = new StringBuilder();
        for (int[] f : found) {
            key.append(System.identityHashCode(f)).append(',').append(Arrays.toString(f));
        }
        int[] best = known.get(key.toString());
        if (best != null) {
            return best;
        }
        best = new int[] {99, NONE};
        for (int h = 0; h < houses; h++) {
            Map<Integer, List<int[]>> parts = new TreeMap<>();
            for (int[] f : found) {
                parts.computeIfAbsent(f[h], k -> new ArrayList<>()).add(f);
            }
            if (parts.size() == 1) {
                continue;
            }
            int worst = 0;
            for (List<int[]> part : parts.values()) {
                worst = Math.max(worst, 1 + looksOf(part, houses, known)[0]);
            }
            if (worst < best[0]) {
                best = new int[] {worst, h};
            }
        }
        known.put(key.toString(), best);
        return best;
    }

    int looks(int what) {
        what(what, 2);
        return looksOf(few(now), now.homes.size(), new HashMap<>())[what];
    }

    static boolean alike(int[] a, int[] b, int set) {
        for (int h = 0; h < a.length; h++) {
            if ((set >> h & 1) != 0 && a[h] != b[h]) {
                return false;
            }
        }
        return true;
    }

    static boolean single(List<int[]> found, int[] one, int set) {
        for (int[] other : found) {
            if (other != one && alike(one, other, set)) {
                return false;
            }
        }
        return true;
    }

    int doors() {
        List<int[]> found = few(now);
        for (int set : sets((1 << now.homes.size()) - 1)) {
            boolean good = true;
            for (int[] one : found) {
                good = good && single(found, one, set);
            }
            if (good) {
                return set;
            }
        }
        throw new IllegalStateException();
    }

    int hints(int i) {
        List<int[]> found = few(now);
        what(i, found.size());
        for (int set : sets((1 << now.homes.size()) - 1)) {
            if (single(found, found.get(i), set)) {
                return set;
            }
        }
        throw new IllegalStateException();
    }

    /** A step at a time, over places and sets of numbers that were come by. */
    int post(int house, int place) {
        house(house);
        demand(place >= 1 && place <= now.most);
        int goals = bits(all(now).found, house);
        TreeSet<Long> reached = new TreeSet<>(List.of((long) place << 32 | goals & ~(1 << place)));
        for (int steps = 0;; steps++) {
            TreeSet<Long> next = new TreeSet<>();
            for (long state : reached) {
                int at = (int) (state >> 32);
                int left = (int) state;
                if (left == 0) {
                    return steps;
                }
                for (int to = at - 1; to <= at + 1; to += 2) {
                    if (to >= 1 && to <= now.most) {
                        next.add((long) to << 32 | left & ~(1 << to));
                    }
                }
            }
            reached = next;
        }
    }

    int feud(int first, int second, int what) {
        house(first);
        house(second);
        what(what, 2);
        demand(first != second);
        int[][] mine = new int[2][2];
        int[][] yours = new int[2][2];
        for (int a = 0; a < 2; a++) {
            for (int b = 0; b < 2; b++) {
                int speaking = now.speaking();
                if (a == 1) {
                    speaking &= ~(1 << first);
                }
                if (b == 1) {
                    speaking &= ~(1 << second);
                }
                List<int[]> found = all(now, speaking).found;
                boolean sure1 = Integer.bitCount(bits(found, first)) == 1;
                boolean sure2 = Integer.bitCount(bits(found, second)) == 1;
                mine[a][b] = (sure1 ? 2 : 0) + (sure2 ? 0 : 1);
                yours[a][b] = (sure2 ? 2 : 0) + (sure1 ? 0 : 1);
            }
        }
        int resting = 0;
        int least = NONE;
        for (int a = 0; a < 2; a++) {
            for (int b = 0; b < 2; b++) {
                if (mine[1 - a][b] <= mine[a][b] && yours[a][1 - b] <= yours[a][b]) {
                    resting++;
                    least = least == NONE ? 2 * a + b : least;
                }
            }
        }
        return what == 0 ? resting : least;
    }

    static final class Draw {
        int seed;

        Draw(int seed) {
            this.seed = seed;
        }

        int of(int n) {
            seed = (int) (seed * 1103515245L + 12345L);
            return (int) ((seed & 0x7fffffffL) / 65536 % n);
        }
    }

    int years(int seed, int years) {
        demand(years >= 0 && years <= 30);
        World w = now.copy();
        Draw draw = new Draw(seed);
        int often = 0;
        for (int year = 0; year < years; year++) {
            if (!w.homes.isEmpty()) {
                int house = draw.of(w.homes.size());
                w.homes.get(house).sons = draw.of(10);
            }
            if (new Seek(w, w.speaking(), true, 2).go().found.size() == 1) {
                often++;
            }
        }
        return often;
    }

    int proof(int house) {
        house(house);
        for (int set : sets(now.speaking())) {
            Seek one = new Seek(now, set, false, 1).go();
            if (one.found.isEmpty()) {
                continue;
            }
            Seek other = new Seek(now, set, false, 1);
            other.barHouse = house;
            other.barNumber = one.found.get(0)[house];
            if (other.go().found.isEmpty()) {
                return set;
            }
        }
        return NONE;
    }

    int build(int what) {
        what(what, 2);
        demand(now.homes.size() < 8);
        int n = now.homes.size();
        Map<Integer, String> riddles = new TreeMap<>();
        for (int c = 1; c <= now.most; c++) {
            riddles.put(c, "here=" + c);
        }
        for (int k = 0; k < n; k++) {
            for (int c = 0; c <= 9; c++) {
                riddles.put(1000 + 100 * k + c, "here=of " + k + "+" + c);
            }
            for (int c = 2; c <= 9; c++) {
                riddles.put(2000 + 100 * k + c, "here=" + c + "*of " + k);
            }
        }
        int good = 0;
        int least = NONE;
        for (Map.Entry<Integer, String> riddle : riddles.entrySet()) {
            World w = now.copy();
            Home home = new Home();
            home.riddle = parsed("house;".repeat(n) + "house says " + riddle.getValue() + ";").homes.get(n).riddle;
            w.homes.add(home);
            if (new Seek(w, w.speaking(), true, 2).go().found.size() == 1) {
                good++;
                least = least == NONE ? riddle.getKey() : least;
            }
        }
        return what == 0 ? good : least;
    }

    int changed(int house, int which, int v, int what) {
        house(house);
        what(which, 2);
        what(what, 2);
        demand(v >= 0 && v <= 99);
        World w = now.copy();
        set(w, which, house, v);
        List<int[]> before = all(now).found;
        List<int[]> behind = all(w).found;
        int others = 0;
        int far = 0;
        for (int h = 0; h < now.homes.size(); h++) {
            others += bits(before, h) != bits(behind, h) ? 1 : 0;
            if (!before.isEmpty() && !behind.isEmpty()) {
                far += Math.abs(before.get(0)[h] - behind.get(0)[h]);
            }
        }
        return what == 0 ? others : before.isEmpty() || behind.isEmpty() ? NONE : far;
    }

    private static int far(int v, int w, int crossing) {
        return Math.abs((v + 1) / 2 - (w + 1) / 2) + (v % 2 == w % 2 ? 0 : crossing);
    }

    private static final class Best {
        int length = Integer.MAX_VALUE;
        List<Integer> row = new ArrayList<>();
    }

    /** All orders, the least rows first; only ways that are already too long are given up. */
    private static void orders(int at, int left, int length, int crossing, List<Integer> row, Best best) {
        if (length >= best.length) {
            return;
        }
        if (left == 0) {
            best.length = length;
            best.row = new ArrayList<>(row);
            return;
        }
        for (int v = 1; v <= 20; v++) {
            if ((left >> v & 1) != 0) {
                row.add(v);
                orders(v, left & ~(1 << v), length + far(at, v, crossing), crossing, row, best);
                row.remove(row.size() - 1);
            }
        }
    }

    int walk(int houses, int place, int crossing) {
        demand(houses >= 0 && houses < 1 << now.homes.size());
        demand(place >= 1 && place <= now.most && crossing >= 0 && crossing <= 9);
        List<int[]> found = all(now).found;
        int goals = 0;
        for (int h = 0; h < now.homes.size(); h++) {
            if ((houses >> h & 1) != 0) {
                goals |= bits(found, h);
            }
        }
        if (Integer.bitCount(goals) > 10) {
            throw new Spent();
        }
        Best best = new Best();
        orders(place, goals, 0, crossing, new ArrayList<>(), best);
        walk = best.row;
        return best.length;
    }

    int door(int i) {
        if (walk == null) {
            throw new NoSuchElementException();
        }
        if (i == NONE) {
            return walk.size();
        }
        what(i, walk.size());
        return walk.get(i);
    }

    private List<Integer> leans(int house) {
        List<Integer> on = new ArrayList<>();
        if (!now.homes.get(house).muted) {
            on.addAll(now.looksAt(house));
            on.remove((Integer) house);
        }
        return on;
    }

    private int back(int goal, int at, int been) {
        int best = 99;
        for (int next : leans(at)) {
            if (next == goal) {
                best = Math.min(best, 1);
            } else if ((been >> next & 1) == 0) {
                best = Math.min(best, 1 + back(goal, next, been | 1 << next));
            }
        }
        return best;
    }

    private int ringOf(int house) {
        int ring = back(house, house, 1 << house);
        return ring > 90 ? NONE : ring;
    }

    private int level(int house, int depth) {
        if (depth > 8 || ringOf(house) != NONE) {
            return NONE;
        }
        int level = 0;
        for (int on : leans(house)) {
            int theirs = level(on, depth + 1);
            if (theirs == NONE) {
                return NONE;
            }
            level = Math.max(level, theirs + 1);
        }
        return level;
    }

    int ring(int house, int what) {
        house(house);
        what(what, 2);
        return what == 0 ? ringOf(house) : level(house, 0);
    }

    String text() {
        StringBuilder text = new StringBuilder("most " + now.most + ";");
        text.append(now.unlike ? "unlike;" : "");
        for (Home h : now.homes) {
            text.append("house " + h.sons + " " + h.debts);
            if (h.riddle != null) {
                text.append(" says ").append(String.join(" ", h.tokens).replaceAll(" ?([^a-z0-9 ]) ?", "$1").replaceAll(" ?([^a-z0-9 ]) ?", "$1"));
            }
            text.append(";");
        }
        return text.toString();
    }

    int written(int i) {
        String text = text();
        if (i == NONE) {
            return text.length();
        }
        what(i, text.length());
        return text.charAt(i);
    }

    int left(int house, int number) {
        house(house);
        demand(number >= 1 && number <= now.most);
        int left = 0;
        for (int[] f : all(now).found) {
            left += f[house] == number ? 1 : 0;
        }
        return left;
    }

    int look(int house, int what) {
        house(house);
        what(what, 3);
        List<int[]> found = all(now).found;
        Map<Integer, Integer> left = new TreeMap<>();
        for (int[] f : found) {
            left.merge(f[house], 1, Integer::sum);
        }
        int most = 0;
        int upper = 0;
        for (int v : left.values()) {
            most = Math.max(most, v);
            upper += v * v;
        }
        int lower = Math.max(1, found.size());
        for (int d = lower; d > 1; d--) {
            if (upper % d == 0 && lower % d == 0) {
                upper /= d;
                lower /= d;
            }
        }
        return what == 0 ? most : what == 1 ? upper : lower;
    }

    World seeded(int seed, int houses) {
        Draw draw = new Draw(seed);
        StringBuilder text = new StringBuilder("most " + now.most + ";" + (now.unlike ? "unlike;" : ""));
        for (int h = 0; h < houses; h++) {
            int kind = draw.of(4);
            String riddle = "";
            if (kind == 1) {
                riddle = " says here=" + (1 + draw.of(now.most));
            } else if (kind > 1 && h > 0) {
                int k = draw.of(h);
                riddle = kind == 2 ? " says here=of " + k + "+" + draw.of(4) : " says not here=of " + k;
            }
            text.append("house").append(riddle).append(";");
        }
        return parsed(text.toString());
    }

    int plant(int seed, int houses) {
        demand(houses >= 1 && houses <= 8);
        now = seeded(seed, houses);
        image = null;
        walk = null;
        return Integer.bitCount(now.speaking());
    }

    private static boolean lawHolds(int law, World w) {
        if (law == 0) {
            return w.speaking() != (1 << w.homes.size()) - 1
                || new Seek(w, w.speaking(), true, 2).go().found.size() < 2;
        }
        if (law == 1) {
            return looksOf(few(w), w.homes.size(), new HashMap<>())[0] < w.homes.size();
        }
        int knot = knotOf(w);
        return knot == NONE || Integer.bitCount(knot) <= 2;
    }

    int tried(int law, int seeds, int houses, int what) {
        what(law, 3);
        what(what, 3);
        demand(seeds >= 0 && seeds <= 40 && houses >= 1 && houses <= 8);
        int broken = 0;
        int least = NONE;
        int spent = 0;
        for (int seed = seeds - 1; seed >= 0; seed--) {
            try {
                if (!lawHolds(law, seeded(seed, houses))) {
                    broken++;
                    least = seed;
                }
            } catch (Spent s) {
                spent++;
            }
        }
        return new int[] {broken, least, spent}[what];
    }

    void image() {
        image = now.copy();
    }

    int restore() {
        if (image == null) {
            return 0;
        }
        now = image.copy();
        return 1;
    }
}
