import java.util.Random;

/** Texts by a seed: streets that can be read, and such as are spoilt. */
final class Riddler {
    private static final String[] SCRAPS = {";", "(", ")", "+", "-", "*", "/", "<", "=", " ", "\n", "most", "unlike", "house",
        "says", "or", "and", "not", "here", "before", "after", "sons", "debts", "of", "door", "x", "0", "7", "8", "99", "100",
        "9999", "12345", "00007", "0", "?", "A", "\u00e9", "most 5;", "unlike;", "house;", "house says here;", "not not not not",
        "((((", "))", "of 7", "of 9", " 1 ", "\t"};

    private final Random random;

    Riddler(long seed) {
        random = new Random(seed);
    }

    private String pick(String... of) {
        return of[random.nextInt(of.length)];
    }

    private String number(int most) {
        return Integer.toString(random.nextInt(most + 2));
    }

    private String value(int houses, int most) {
        switch (random.nextInt(9)) {
            case 0:
            case 1:
                return "here";
            case 2:
                return "before";
            case 3:
                return "after";
            case 4:
                return "sons";
            case 5:
                return pick("debts", "most");
            case 6:
                return number(most);
            default:
                return "of " + random.nextInt(random.nextInt(6) == 0 ? 8 : houses);
        }
    }

    private String simple(int houses, int most) {
        switch (random.nextInt(8)) {
            case 0:
                return "here=" + number(most);
            case 1:
                return "here<" + value(houses, most);
            case 2:
                return "not here=" + value(houses, most);
            case 3:
                return "here=" + value(houses, most) + pick("+", "-", "*", "/") + number(3);
            case 4:
                return "here=" + value(houses, most) + " or " + value(houses, most) + "=" + value(houses, most);
            case 5:
                return value(houses, most) + "<" + value(houses, most) + " and not " + value(houses, most) + "<" + number(most);
            case 6:
                return "here+" + value(houses, most) + "=" + value(houses, most) + "*" + number(3);
            default:
                return "sons<here and here<debts+" + number(most);
        }
    }

    private String wild(int houses, int most, int depth) {
        if (depth == 0 || random.nextInt(3) == 0) {
            return value(houses, most);
        }
        if (random.nextInt(3) == 0) {
            return "(" + wild(houses, most, depth - 1) + ")";
        }
        if (random.nextInt(5) == 0) {
            return "(not " + wild(houses, most, depth - 1) + ")";
        }
        return wild(houses, most, depth - 1) + pick("+", "-", "*", "/", " * ", "\n+") + wild(houses, most, depth - 1);
    }

    private String riddle(int houses, int most) {
        if (random.nextInt(5) != 0) {
            return simple(houses, most);
        }
        return pick("", "", "not ", "not not ") + wild(houses, most, 3) + pick("=", "<", " = ") + wild(houses, most, 2)
            + pick("", "", " or here<3", " and here<" + number(most));
    }

    String street() {
        int houses = random.nextInt(10) == 0 ? random.nextInt(9) : 1 + random.nextInt(5);
        int most = 2 + random.nextInt(random.nextInt(5) == 0 ? 19 : 6);
        StringBuilder text = new StringBuilder();
        if (random.nextInt(8) != 0) {
            text.append("most ").append(most).append(";");
        }
        if (random.nextInt(3) == 0) {
            text.append("unlike;");
        }
        for (int h = 0; h < houses; h++) {
            text.append("house").append(pick("", " "));
            if (random.nextBoolean()) {
                text.append(random.nextInt(most + 3));
                if (random.nextBoolean()) {
                    text.append(" ").append(random.nextInt(most + 3));
                }
            }
            if (random.nextInt(6) != 0) {
                text.append(" says ").append(riddle(Math.max(1, houses), most));
            }
            text.append(";").append(pick("", "\n"));
        }
        return text.length() > 480 ? "house says here=of 0;" : text.toString();
    }

    /** A street into which, or in place of some of which, scraps were put. */
    String spoilt() {
        StringBuilder text = new StringBuilder(street());
        int times = 1 + random.nextInt(3);
        for (int i = 0; i < times; i++) {
            int at = random.nextInt(text.length() + 1);
            int end = Math.min(text.length(), at + random.nextInt(4));
            text.replace(at, end, pick(SCRAPS));
        }
        return text.length() > 480 ? "house says" : text.toString();
    }

    String scraps() {
        StringBuilder text = new StringBuilder(pick("house says ", "", "house", "most ", "house says of", "house 1 "));
        int n = random.nextInt(12);
        for (int i = 0; i < n; i++) {
            text.append(pick(SCRAPS)).append(pick("", " "));
        }
        return text.toString();
    }
}
