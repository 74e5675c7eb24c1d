/** Each sentence of the document that names a boundary of texts: promises 1 to 4, the tokens, the grammar, the faults. */
public final class EdgesOfTextTest {
    private static final String SIX_NOTS = "not not not not not not ";
    private static final String EIGHT = "house;".repeat(8);
    private static final String[] NO_VALUES = {"unlike", "house", "says", "or", "and", "x", "a", "z", "hereafter", "her", "o"};

    public static void main(String[] args) {
        newObject();
        feeding();
        bytesOfANumber();
        howManyBytes();
        fiveHundredBytes();
        fiveHundredBytesOfEachSign();
        eightHouses();
        sonsAndDebts();
        most();
        unlike();
        letters();
        everyByte();
        blanks();
        longestRows();
        nearWords();
        numerals();
        linesInAnyOrder();
        endsTooSoon();
        everyBeginning();
        cantStand();
        tooMuch();
        housesByOf();
        sixOthers();
        sevenNots();
        noValues();
        second();
        firstAlongTheText();
        faultsPlace();
        allStays();
        allAnew();
        againAndAgain();
        Check.end();
    }

    private static void newObject() {
        Check.says("No HOUSES, MOST 9.");
        RiddleDoors doors = new RiddleDoors();
        Check.due("count(0)", doors.count(0), 0);
        Check.due("count(1)", doors.count(1), 9);
        Check.due("count(2)", doors.count(2), 0);
        Check.throwsDue("house(0, 0)", Check.NSE, () -> doors.house(0, 0));
        Check.due("a house without a riddle", doors.plant(0, 1), 0);
        Check.due("letter(0, 9)", doors.letter(0, 9), 1);
        Check.due("letter(0, 10)", doors.letter(0, 10), RiddleDoors.NONE);
    }

    private static void feeding() {
        Check.says("how many it has; NONE, and none come, if it would have more than 500.");
        RiddleDoors doors = new RiddleDoors();
        for (int i = 1; i <= 25; i++) {
            // blanks, and the word 'most' at the end
            int last = i == 25 ? 0x6d6f7374 : 0x20202020;
            Check.due("feed " + i, doors.feed(0x20202020, 0x20202020, 0x20202020, 0x20202020, last), 20 * i);
        }
        for (int i = 0; i < 3; i++) {
            Check.due("feed behind 500", doors.feed(0x3b3b3b3b, 0x3b3b3b3b, 0x3b3b3b3b, 0x3b3b3b3b, 0x3b3b3b3b), RiddleDoors.NONE);
            Check.due("bytes", doors.count(5), 500);
        }
        Check.due("street(500)", doors.street(500), 1);
        Check.due("none came: the word 'most' is still the last", doors.fault(), 500);
        Check.due("feed of the empty tape", doors.feed(0, 0, 0, 0, 0), 20);
        Check.due("a refused feed is no refused text", doors.count(6), 1);
    }

    private static void bytesOfANumber() {
        Check.says("Twenty bytes come behind the tape, of each number the highest first");
        // most 3;house 1 2 ;ho | use 34 56 says 1 ;;;;
        int[] five = {0x6d6f7374, 0x20333b68, 0x6f757365, 0x20312032, 0x203b686f};
        RiddleDoors doors = new RiddleDoors();
        Check.due("feed", doors.feed(five[0], five[1], five[2], five[3], five[4]), 20);
        Check.due("feed", doors.feed(0x75736520, 0x33342035, 0x36207361, 0x79732031, 0x203bffff), 40);
        Check.due("street(38)", doors.street(38), 0);
        Check.same("written", Check.written(doors), "most 3;house 1 2;house 34 56 says 1;");
        for (int at = 0; at < 20; at++) {
            // One byte of 255 among blanks is at its own place.
            int[] row = {0x20202020, 0x20202020, 0x20202020, 0x20202020, 0x20202020};
            row[at / 4] |= 0xff << 24 - 8 * (at % 4);
            doors.feed(row[0], row[1], row[2], row[3], row[4]);
            Check.due("byte " + at, doors.street(20), 1);
            Check.due("its place", doors.fault(), at);
        }
    }

    private static void howManyBytes() {
        Check.says("IllegalArgumentException: the tape has not so many, n below 0 (nothing changes).");
        RiddleDoors empty = new RiddleDoors();
        for (int n : new int[] {-1, 1, 501, Integer.MIN_VALUE, Integer.MAX_VALUE}) {
            Check.throwsDue("street(" + n + ") of no tape", Check.IAE, () -> empty.street(n));
        }
        Check.due("street(0) of no tape", empty.street(0), 0);
        RiddleDoors doors = Check.street("most 3;house;");
        Check.due("a fault", Check.tell(doors, "house x"), 1);
        doors.letter(0, 2);
        Check.feed(doors, "most 4;house;house;");
        for (int n : new int[] {-1, 21, 501, Integer.MIN_VALUE, Integer.MAX_VALUE}) {
            Check.throwsDue("street(" + n + ")", Check.IAE, () -> doors.street(n));
            Check.due("bytes", doors.count(5), 20);
            Check.due("the fault's place", doors.fault(), 6);
            Check.due("status 0", doors.count(6), 1);
            Check.due("houses", doors.count(0), 1);
            Check.due("letters", doors.count(4), 1);
        }
        Check.due("street(20)", doors.street(20), 0);
        Check.due("houses then", doors.count(0), 2);
    }

    private static void fiveHundredBytes() {
        Check.says("A TEXT of at most 500 bytes");
        String text = "house says here=2" + " ".repeat(482) + ";";
        Check.due("its length", text.length(), 500);
        Check.good(text);
        RiddleDoors doors = new RiddleDoors();
        Check.feed(doors, text);
        Check.due("street(499)", doors.street(499), 1);
        Check.due("it ends too soon there", doors.fault(), 499);
        Check.good(" ".repeat(500));
        Check.good("\n".repeat(500));
        Check.fault(" ".repeat(499) + ";", 1, 499);
        Check.fault(";".repeat(500), 1, 0);
        Check.fault("a".repeat(500), 1, 0);
        Check.fault("house says " + "1".repeat(489), 2, 11);
        Check.fault("house says " + "a".repeat(489), 3, 11);
        Check.fault("house says 1+" + "(1)+".repeat(121) + "(1)", 1, 500);
    }

    /** As many joined parts as a text of 500 bytes can have. */
    private static void fiveHundredBytesOfEachSign() {
        Check.says("A TEXT of at most 500 bytes");
        longest("+1", 240, "=241");
        longest("-1", 240, "+239=0");
        longest("*2", 240, "=0");
        longest("*1", 240, "=1");
        longest("/1", 240, "=1");
        longest("or0", 160, "=0");
        longest("and1", 120, "=1");
        longest("and not0", 60, "");
    }

    private static void longest(String joined, int times, String end) {
        String riddle = "1" + joined.repeat(times) + end;
        String text = "house says " + riddle + " ".repeat(488 - riddle.length()) + ";";
        Check.due("the length of 1" + joined, text.length(), 500);
        RiddleDoors doors = Check.street(text);
        Check.due("it holds: 1" + joined, doors.holds(0, 1), 1);
        String written = "most 9;house 0 0 says 1" + (joined.charAt(0) > '9' ? " " : "") + joined.charAt(0);
        Check.same("it is written", Check.written(doors).substring(0, written.length()), written);
        Check.due("its sign is the last", doors.written(doors.written(-1) - 1), ';');
    }

    private static void eightHouses() {
        Check.says("2 one that can, but is too much: .. the first TOKEN of the 9th HOUSE");
        Check.good(EIGHT);
        Check.good(EIGHT + "most 20;unlike;");
        Check.fault(EIGHT + "house;", 2, 48);
        Check.fault(EIGHT + "house", 2, 48);
        Check.fault(EIGHT + "house 100 x", 2, 48);
        Check.fault(EIGHT + " \nhouse;", 2, 50);
        Check.fault(EIGHT + "houses;", 1, 48);
        Check.fault(EIGHT + "most 1;house;", 2, 53);
        Check.fault("most 9;" + EIGHT + "most 9;house;", 4, 55);
        Check.due("houses", Check.street(EIGHT).count(0), 8);
        Check.due("one", Check.street("house;").count(0), 1);
    }

    private static void sonsAndDebts() {
        Check.says("SONS, DEBTS (0 to 99 each; 0 without)");
        RiddleDoors doors = Check.street("house;house 7;house 0 0;house 99 99;house 0099 0000;house 1 99;");
        int[][] due = {{0, 0}, {7, 0}, {0, 0}, {99, 99}, {99, 0}, {1, 99}};
        for (int h = 0; h < due.length; h++) {
            Check.due("sons of " + h, doors.house(h, 0), due[h][0]);
            Check.due("debts of " + h, doors.house(h, 1), due[h][1]);
        }
        Check.fault("house 100;", 2, 6);
        Check.fault("house 0100;", 2, 6);
        Check.fault("house 9999;", 2, 6);
        Check.fault("house 00099;", 2, 6);
        Check.fault("house 99 100;", 2, 9);
        Check.fault("house 99 9999;", 2, 9);
        Check.fault("house 99 00000;", 2, 9);
        Check.fault("house 100 100;", 2, 6);
        Check.fault("house 99 99 0;", 1, 12);
        Check.fault("house 99 99 100;", 1, 12);
        Check.fault("house 99 99 00000;", 1, 12);
        Check.fault("house 99 100 says", 2, 9);
    }

    private static void most() {
        Check.says("MOST (2 to 20; 9 without)");
        Check.due("without", Check.street("house;").count(1), 9);
        Check.due("2", Check.street("most 2;").count(1), 2);
        Check.due("20", Check.street("most 20;").count(1), 20);
        Check.due("0002", Check.street("most 0002;").count(1), 2);
        Check.due("told behind", Check.street("house says here=most;most 3;").may(0), 8);
        String[] never = {"0", "1", "21", "0021", "100", "9999", "10000", "00002", "99999999999999999999"};
        for (String most : never) {
            Check.fault("most " + most + ";", 2, 5);
        }
        Check.due("numbers from 1 to 2", Check.street("most 2;house;").may(0), 6);
        Check.due("numbers from 1 to 20", Check.street("most 20;house;").may(0), (1 << 21) - 2);
    }

    private static void unlike() {
        Check.says("if it is told that all are UNLIKE, no two have the same.");
        RiddleDoors told = Check.street("most 2;unlike;house;house;");
        Check.due("count(2)", told.count(2), 1);
        Check.due("numberings", told.numberings(), 2);
        RiddleDoors behind = Check.street("most 2;house;house;unlike;");
        Check.due("count(2), told behind", behind.count(2), 1);
        Check.due("numberings, told behind", behind.numberings(), 2);
        RiddleDoors without = Check.street("most 2;house;house;");
        Check.due("count(2) without", without.count(2), 0);
        Check.due("numberings without", without.numberings(), 4);
    }

    private static void letters() {
        Check.says("TOKENS: words (a .. z, the longest row)");
        Check.fault("house says a;", 3, 11);
        Check.fault("house says z;", 3, 11);
        Check.fault("house says az;", 3, 11);
        // the signs next to a and z, and capitals, are none
        Check.fault("house says `;", 1, 11);
        Check.fault("house says {;", 1, 11);
        Check.fault("house says A;", 1, 11);
        Check.fault("house says Z;", 1, 11);
        Check.fault("house says hEre;", 3, 11);
        Check.fault("house says here`;", 1, 15);
        Check.fault("house says here{;", 1, 15);
    }

    /** Each byte alone, and each between two figures of a riddle. */
    private static void everyByte() {
        Check.says("signs ; ( ) + - * / < = ; blanks (32, 10) between them count for nothing");
        for (int b = 0; b < 256; b++) {
            String sign = String.valueOf((char) b);
            boolean blank = b == 32 || b == 10;
            Check.fault(sign, blank ? 0 : 1, blank ? RiddleDoors.NONE : 0);
            boolean joins = "+-*/<=".indexOf(b) >= 0 || b >= '0' && b <= '9';
            Check.fault("house says 1" + sign + "1;", joins ? 0 : 1, joins ? RiddleDoors.NONE : b == ';' || blank ? 13 : 12);
            boolean begins = b == '(' || b >= '0' && b <= '9' || blank;
            boolean letter = b >= 'a' && b <= 'z';
            int kind = begins ? b == '(' ? 1 : 0 : letter ? 3 : 1;
            Check.fault("house says " + sign + "1;", kind, kind == 0 ? RiddleDoors.NONE : b == '(' ? 13 : 11);
        }
    }

    private static void blanks() {
        Check.says("blanks (32, 10) between them count for nothing");
        Check.good("\n \nmost \n 5 \n ; \n");
        Check.good("house says here=of\n\n0\n;");
        Check.due("without any", Check.street("most5;house1says2;").house(0, 0), 1);
        Check.fault("mo st 5;", 1, 0);
        Check.fault("house says 1 2;", 1, 13);
        Check.fault("house says o f 1;", 3, 11);
        Check.fault("most 5;\t", 1, 7);
        Check.fault("most 5;\r\n", 1, 7);
        Check.fault("most 5;\u00a0", 1, 7);
        Check.fault("most 5;\0", 1, 7);
    }

    private static void longestRows() {
        Check.says("words (a .. z, the longest row)");
        Check.fault("mostly 5;", 1, 0);
        Check.fault("unlikehouse;", 1, 0);
        Check.fault("house sayshere;", 1, 6);
        Check.fault("housesays 1;", 1, 0);
        Check.fault("house says hereafter;", 3, 11);
        Check.fault("house says nothere;", 3, 11);
        Check.fault("house says 1 orhere;", 1, 13);
        Check.good("house says not(here)and(1)or of0;");
        Check.good("house1 2says 3or 4and of5;");
    }

    /** Each word of the language with one letter of it another, one less, or one more, is another word. */
    private static void nearWords() {
        Check.says("In quotes is what stands there");
        String[][] places = {{"", "most", " 5;"}, {"", "unlike", ";"}, {"", "house", ";"}, {"house ", "says", " 1;"}, {"house says 1 ", "or", " 1;"},
            {"house says 1 ", "and", " 1;"}, {"house says ", "not", " 1;"}, {"house says ", "here", ";"}, {"house says ", "before", ";"},
            {"house says ", "after", ";"}, {"house says ", "sons", ";"}, {"house says ", "debts", ";"}, {"house says ", "most", ";"},
            {"house says ", "of", " 1;"}};
        for (String[] place : places) {
            String word = place[1];
            Check.good(place[0] + word + place[2]);
            int kind = place[0].endsWith("says ") ? 3 : 1;
            for (int i = 0; i < word.length(); i++) {
                String ahead = word.substring(0, i);
                String behind = word.substring(i + 1);
                Check.fault(place[0] + ahead + "x" + behind + place[2], kind, place[0].length());
                Check.fault(place[0] + ahead + word.charAt(i) + word.charAt(i) + behind + place[2], kind, place[0].length());
                Check.fault(place[0] + ahead + behind + place[2], kind, place[0].length());
            }
        }
    }

    private static void numerals() {
        Check.says("NUMERALS (1 to 4 digits)");
        Check.good("house says 0;");
        Check.good("house says 0000;");
        Check.good("house says 9999;");
        Check.good("house says of 0007;");
        Check.due("9999 is so much", Check.street("house says 9999=10*1000-1;").holds(0, 1), 1);
        Check.due("0010 is ten", Check.street("house says 0010=5+5;").holds(0, 1), 1);
        Check.says("a NUMERAL of 5 digits or more");
        Check.fault("house says 00000;", 2, 11);
        Check.fault("house says 10000;", 2, 11);
        Check.fault("house says 4294967297;", 2, 11);
        Check.fault("house says of 00007;", 2, 14);
        Check.fault("house says 1+12345;", 2, 13);
        Check.fault("house says (12345);", 2, 12);
        Check.fault("house says not 12345", 2, 15);
        Check.fault("house says 1234 5;", 1, 16);
        Check.says("1 a TOKEN that can't stand there");
        Check.fault("house says 1 12345;", 1, 13);
        Check.fault("house says here 12345;", 1, 16);
        Check.fault("12345;", 1, 0);
        Check.fault("unlike 12345;", 1, 7);
    }

    private static void linesInAnyOrder() {
        Check.says("STREET: LINE*. LINE: ('most' NUMERAL | 'unlike' | 'house' [SONS [DEBTS]] ['says' EXPR]) ';'");
        Check.good("");
        Check.good("house;unlike;house 1;most 7;house 1 2;house says 1;house 1 says 1;house 1 2 says 1;");
        Check.fault(";", 1, 0);
        Check.fault("house;;", 1, 6);
        Check.fault("house says 1 says 2;", 1, 13);
        Check.fault("house says 1 house;", 1, 13);
        Check.fault("house most 5;", 1, 6);
        Check.fault("most 5 6;", 1, 7);
        Check.fault("most 5 says;", 1, 7);
        Check.fault("unlike says;", 1, 7);
        Check.fault("house here;", 1, 6);
    }

    private static void endsTooSoon() {
        Check.says("the text's length where it ends too soon");
        String[] begun = {"most", "most 5", "unlike", "house", "house 1", "house 1 2", "house says", "house says 1", "house says not",
            "house says 1+", "house says 1-", "house says 1*", "house says 1/", "house says 1<", "house says 1=", "house says 1 and",
            "house says 1 or", "house says of", "house says of 7", "house says (", "house says (1", "house says (1)", "house says here",
            "house says " + SIX_NOTS, "house says ((((((", "house says 1<2"};
        for (String text : begun) {
            Check.fault(text, 1, text.length());
            Check.fault(text + " \n ", 1, text.length() + 3);
            Check.fault("house;" + text, 1, text.length() + 6);
        }
    }

    /** Each beginning of a text: it ends too soon, or with a piece of a word. */
    private static void everyBeginning() {
        Check.says("1 a TOKEN that can't stand there, or is none (the text's length where it ends too soon)");
        String[] tokens = {"most", "12", ";", "unlike", ";", "house", "1", "2", "says", "not", "(", "here", "+", "debts", "<", "of",
            "2", ")", "or", "before", "=", "3", "and", "most", ";", "house", ";"};
        StringBuilder text = new StringBuilder();
        boolean riddle = false;
        boolean whole = true;
        for (int i = 0; i < tokens.length; i++) {
            String token = tokens[i];
            int begin = text.length();
            // A part, or 'not', must stand behind all but these.
            boolean part = riddle && !")".equals(token) && !"or".equals(token) && !"and".equals(token);
            for (int cut = 0; cut < token.length(); cut++) {
                String beginning = text + token.substring(0, cut);
                boolean word = cut > 0 && token.charAt(0) >= 'a';
                if (word) {
                    Check.fault(beginning, part ? 3 : 1, begin);
                } else if (cut == 0) {
                    Check.fault(beginning, whole ? 0 : 1, whole ? RiddleDoors.NONE : begin);
                }
            }
            text.append(token).append(' ');
            riddle = riddle && !";".equals(token) || "says".equals(token);
            whole = ";".equals(token);
        }
        Check.good(text.toString());
    }

    private static void cantStand() {
        Check.says("1 a TOKEN that can't stand there");
        String[] never = {"+", "-", "*", "/", "<", "=", ")", ";", "?"};
        String[] ahead = {"", "not ", "1+", "1-", "1*", "1/", "1<", "1=", "1 and ", "1 or ", "("};
        for (String sign : never) {
            for (String before : ahead) {
                Check.fault("house says " + before + sign, 1, 11 + before.length());
            }
            Check.fault("most " + sign, 1, 5);
            Check.fault("house says of " + sign, 1, 14);
        }
        String[] behindATest = {"<", "=", "(", "1", "here", "of", "not", "12345", "x"};
        for (String token : behindATest) {
            Check.fault("house says 1<2 " + token, 1, 15);
            Check.fault("house says 1=2 " + token, 1, 15);
        }
        Check.fault("house says (1<2)<3)", 1, 18);
        Check.good("house says (1<2)<3;");
        Check.good("house says 1<2 and 2<3 or 3=4;");
        Check.fault("house says of of 1;", 1, 14);
        Check.fault("house says of most;", 1, 14);
        Check.fault("house says of(1);", 1, 13);
        Check.fault("house says of -1;", 1, 14);
        Check.fault("house -1;", 1, 6);
        Check.fault("most -1;", 1, 5);
    }

    private static void tooMuch() {
        Check.says("or (not in an EXPR but behind 'of') not as told");
        Check.good("house says 100;");
        Check.good("house says 8+21+100;");
        Check.good("house says most=9999;");
        Check.fault("house says of 8;", 2, 14);
        Check.fault("house says here=of 9999;", 2, 19);
        Check.fault("house says of 8", 2, 14);
    }

    private static void housesByOf() {
        Check.says("HOUSE a NUMERAL 0 to 7");
        for (int h = 0; h < 8; h++) {
            RiddleDoors doors = Check.street("most 2;" + "house;".repeat(7) + "house says of " + h + "=2;");
            Check.due("it looks at " + h, doors.house(7, 4), 1 << h);
            Check.due("may(" + h + ")", doors.may(h), 4);
        }
        Check.fault("house says of 8;", 2, 14);
        Check.fault("house says of 10;", 2, 14);
    }

    private static void sixOthers() {
        Check.says("of an EXPR within 6 others (a NUMERAL, any word, a parenthesis)");
        Check.good("house says (((((1)))));");
        Check.good("house says (((((1)+(2))+(3))+(4))+(5))+(6);");
        Check.good("house says (((((not here=of 7 or most and sons)))))+(((((1)))));");
        String six = "house says ((((((";
        String[] begins = {"1", "12345", "99999999", "here", "of", "not", "most", "or", "and", "says", "house", "unlike", "x", "(", "((("};
        for (String token : begins) {
            Check.fault(six + token, 2, 17);
            Check.fault(six + "\n " + token + "))))));", 2, 19);
        }
        String[] never = {")", ";", "+", "-", "*", "/", "<", "=", "?", "A", "\u00ff", ""};
        for (String token : never) {
            Check.fault(six + token, 1, 17);
        }
        Check.fault("house says 1+2*(1 or(1 and(not(1<(1=(1)))))));", 2, 37);
        Check.fault("house says (((((1)))))+((((((1))))));", 2, 29);
        Check.good("house says (((((1)))));house says (((((1)))));");
        Check.fault("house says (((((1))))));", 1, 22);
    }

    private static void sevenNots() {
        Check.says("the seventh 'not' side by side");
        Check.good("house says " + SIX_NOTS + "1;");
        Check.fault("house says " + SIX_NOTS + "not 1;", 2, 35);
        Check.fault("house says " + SIX_NOTS + "not", 2, 35);
        Check.fault("house says " + SIX_NOTS + "not not not x", 2, 35);
        Check.fault("house says " + SIX_NOTS + "\nnot", 2, 36);
        Check.fault("house says " + SIX_NOTS + "nots", 3, 35);
        Check.good("house says " + SIX_NOTS + "(" + SIX_NOTS + "(" + SIX_NOTS + "1));");
        Check.fault("house says (" + SIX_NOTS + "not 1);", 2, 36);
        Check.good("house says " + SIX_NOTS + "1 and " + SIX_NOTS + "1 or " + SIX_NOTS + "1;");
        Check.fault("house says 1 and " + SIX_NOTS + "not 1;", 2, 41);
        Check.fault("house says 1 or " + SIX_NOTS + "not 1;", 2, 40);
        Check.fault("house says " + SIX_NOTS + "1+not 1;", 3, 37);
        Check.due("six are none", Check.street("house says " + SIX_NOTS + "5=1;").holds(0, 1), 0);
        Check.due("five are one", Check.street("house says not not not not not 5=1;").holds(0, 1), 1);
    }

    private static void noValues() {
        Check.says("3 any word where a PART must stand that is neither a VALUE nor 'of'");
        String[] ahead = {"", "not ", SIX_NOTS, "1+", "1-", "1*", "1/", "1<", "1=", "1 and ", "1 or ", "(", "((((("};
        for (String word : NO_VALUES) {
            for (String before : ahead) {
                Check.fault("house says " + before + word, 3, 11 + before.length());
            }
            Check.fault("house says of " + word, 1, 14);
            boolean line = word.equals("unlike") || word.equals("house");
            Check.fault("house says 1;" + word + " x", 1, line ? 14 + word.length() : 13);
        }
        String[] values = {"here", "before", "after", "sons", "debts", "most", "of 0"};
        for (String value : values) {
            for (String before : ahead) {
                int open = (int) before.chars().filter(c -> c == '(').count();
                Check.good("house says " + before + value + ")".repeat(open) + ";");
            }
        }
        String[] behindSigns = {"1+", "1-", "1*", "1/", "1<", "1="};
        for (String before : behindSigns) {
            Check.fault("house says " + before + "not 1;", 3, 11 + before.length());
        }
    }

    private static void second() {
        Check.says("4 a second 'most', 'unlike'");
        Check.fault("most 5;most 5;", 4, 7);
        Check.fault("most 5;most", 4, 7);
        Check.fault("most 5; most 99999;", 4, 8);
        Check.fault("most 5;house;most x;", 4, 13);
        Check.fault("most 9;most 9;", 4, 7);
        Check.fault("unlike;unlike;", 4, 7);
        Check.fault("unlike;house;\nunlike", 4, 14);
        Check.good("most 5;unlike;");
        Check.good("unlike;most 5;");
        Check.good("most 5;house says most;");
        Check.fault("most most 5;", 1, 5);
        Check.fault("most 5;unlike most 5;", 1, 14);
        Check.fault("unlike unlike;", 1, 7);
        Check.fault("most 5;mos 5;", 1, 7);
        Check.fault(EIGHT + "most 5;unlike;most 5;house;", 4, 62);
    }

    private static void firstAlongTheText() {
        Check.says("the first along the text");
        Check.fault("house says x;most 1;;", 3, 11);
        Check.fault("most 1;house says x;;", 2, 5);
        Check.fault("most 5;;most 5;", 1, 7);
        Check.fault("most 5;most 1;house says x", 4, 7);
        Check.fault("house says 1 1 x 12345 ?", 1, 13);
        Check.fault("house says 12345 x ?", 2, 11);
        Check.fault("house says ? x 12345", 1, 11);
        Check.fault("house 1 ?", 1, 8);
    }

    private static void faultsPlace() {
        Check.says("The place of the latest street()'s FAULT; NONE without.");
        RiddleDoors doors = new RiddleDoors();
        Check.due("of no street", doors.fault(), RiddleDoors.NONE);
        Check.due("a fault", Check.tell(doors, "most 5;x"), 1);
        Check.due("its place", doors.fault(), 7);
        Check.due("asked again", doors.fault(), 7);
        Check.due("another", Check.tell(doors, "x"), 1);
        Check.due("its place", doors.fault(), 0);
        Check.throwsDue("street(1) of no tape", Check.IAE, () -> doors.street(1));
        doors.plant(1, 3);
        doors.become(0, 0, 100);
        Check.due("it stays", doors.fault(), 0);
        Check.due("a street", Check.tell(doors, "house;"), 0);
        Check.due("without", doors.fault(), RiddleDoors.NONE);
        doors.become(0, 0, 100);
        Check.due("without, still", doors.fault(), RiddleDoors.NONE);
    }

    private static void allStays() {
        Check.says("The tape's first n bytes (it is empty then) are a STREET, all anew: 0, or the FAULT (all stays).");
        String[] faults = {"", "most 3;unlike;house 5 5;house;", "most 3;unlike;house 1 2 says here=1;"};
        for (String begun : faults) {
            RiddleDoors doors = Check.street("most 5;house 1 2 says here<4;house says here=1;");
            doors.become(0, 1, 77);
            doors.mute(1, true);
            doors.letter(0, 2);
            doors.walk(1, 1, 1);
            doors.image();
            doors.become(0, 0, 66);
            Check.due("a fault", Check.tell(doors, begun + "x"), 1);
            Check.due("the tape is empty", doors.count(5), 0);
            int[] counts = {2, 5, 0, 3, 1, 0, 1, 0, 0};
            for (int i = 0; i < counts.length; i++) {
                Check.due("count(" + i + ")", doors.count(i), counts[i]);
            }
            Check.same("written", Check.written(doors), "most 5;house 66 77 says here<4;house 0 0 says here=1;");
            Check.due("muted", doors.house(1, 3), 1);
            Check.due("numberings", doors.numberings(), 5);
            Check.due("the walk", doors.door(0), 2);
            Check.due("undo", doors.undo(), 2);
            Check.due("sons", doors.house(0, 0), 1);
            Check.due("undo", doors.undo(), 1);
            Check.due("restore", doors.restore(), true);
            Check.due("muted again", doors.house(1, 3), 1);
        }
    }

    private static void allAnew() {
        Check.says("ACTS, LETTERS, the image are gone (STATUS stays).");
        RiddleDoors doors = Check.street("most 5;unlike;house 1 2 says here<4;house says here=1;");
        doors.become(0, 1, 77);
        doors.become(0, 1, 100);
        doors.mute(1, true);
        doors.mute(1, true);
        doors.letter(0, 2);
        doors.letter(0, 6);
        doors.image();
        doors.walk(1, 1, 1);
        Check.due("a fault", Check.tell(doors, "x"), 1);
        Check.due("a street", Check.tell(doors, "house;house says here=1;house;"), 0);
        int[] counts = {3, 9, 0, 0, 0, 0, 1, 2, 1};
        for (int i = 0; i < counts.length; i++) {
            Check.due("count(" + i + ")", doors.count(i), counts[i]);
        }
        Check.due("undo", doors.undo(), RiddleDoors.NONE);
        Check.due("unletter", doors.unletter(), RiddleDoors.NONE);
        Check.due("restore", doors.restore(), false);
        Check.throwsDue("door(-1)", Check.NSE, () -> doors.door(-1));
        Check.due("speaks", doors.house(1, 3), 0);
        Check.due("debts", doors.house(0, 1), 0);
        Check.due("numberings", doors.numberings(), 81);
        Check.due("no street at all", doors.street(0), 0);
        Check.due("houses", doors.count(0), 0);
        Check.due("most", doors.count(1), 9);
    }

    /** Nothing of any street ahead, nor of what was only tried, is there again. */
    private static void againAndAgain() {
        Check.says("ACTS, LETTERS, the image are gone (STATUS stays).");
        RiddleDoors doors = new RiddleDoors();
        for (int i = 0; i < 6; i++) {
            Check.due("a street", Check.tell(doors, "most 5;unlike;house 1 2 says here=1;house says here=of 0+1;house says before<3;"), 0);
            bare(doors, 3, new int[] {1, 3, 2});
            doors.become(0, 0, 50 + i);
            doors.mute(1, true);
            doors.letter(2, 3);
            doors.image();
            doors.walk(1, 1, 1);
            if (i % 2 == 0) {
                doors.years(i, 3);
                doors.build(0);
                doors.changed(0, 0, 9, 0);
                doors.tried(1, 3, 3, 0);
            }
            if (i < 4) {
                Check.due("houses alone", Check.tell(doors, "house;house;house;house;"), 0);
            } else {
                // None of these four has a riddle.
                Check.due("plant(14, 4)", doors.plant(14, 4), 0);
            }
            bare(doors, 4, new int[] {0, 0, 0, 0});
            doors.become(3, 1, 60 + i);
            doors.letter(3, 2);
        }
    }

    /** Nothing was done on it yet. */
    private static void bare(RiddleDoors doors, int houses, int[] looks) {
        Check.due("houses", doors.count(0), houses);
        Check.due("acts", doors.count(3), 0);
        Check.due("letters", doors.count(4), 0);
        for (int h = 0; h < houses; h++) {
            Check.due("muted", doors.house(h, 3), 0);
            Check.due("looks at", doors.house(h, 4), looks[h]);
        }
        Check.due("sons of the last", doors.house(houses - 1, 0), 0);
        Check.due("debts of the last", doors.house(houses - 1, 1), 0);
        Check.due("undo", doors.undo(), RiddleDoors.NONE);
        Check.due("unletter", doors.unletter(), RiddleDoors.NONE);
        Check.due("restore", doors.restore(), false);
        Check.throwsDue("door(-1)", Check.NSE, () -> doors.door(-1));
    }
}
