import java.util.Arrays;
import java.util.NoSuchElementException;

/** A street whose doors are numbered by riddles; ../shared/DOC.md says what each call promises. */
public final class RiddleDoors {
    public static final int NONE = -1;

    private static final int SPENT = -2;
    private static final int LONGEST_TAPE = 500;
    private static final int MOST_HOUSES = 8;
    private static final int MOST_SONS = 99;
    private static final int MOST_LOOKED_AT = 40;
    private static final int MOST_WALKED = 10;
    private static final int MOST_YEARS = 30;
    private static final int MOST_SEEDS = 40;
    private static final int NUMBERINGS_LAW = 0;
    private static final int LOOKS_LAW = 1;
    private static final int LAWS = 3;

    private final byte[] tape = new byte[LONGEST_TAPE];
    private int taped = 0;
    private int faultPlace = NONE;
    private final int[] refused = new int[3];

    // What is, and a second of each: a text or a trial goes into the second, and becomes what is only if it succeeds.
    private Street told = new Street();
    private Street spare = new Street();
    private Life life = new Life();
    private Life trial = new Life();
    private final Life kept = new Life();
    private boolean imaged = false;

    // This search holds the numberings of what is while 'searched' says so; all other questions use the one of 'asking'.
    private final Search present = new Search();
    private boolean searched = false;
    private final Asking asking = new Asking();
    private final Looking looking = new Looking();
    private final Walking walking = new Walking();

    private final Reader reader = new Reader();
    private final Draws draws = new Draws();
    private final Page page = new Page();
    private boolean inked = false;

    public RiddleDoors() {
    }

    public int feed(int a, int b, int c, int d, int e) {
        if (taped + 20 > LONGEST_TAPE) {
            return NONE;
        }
        putOnTape(a);
        putOnTape(b);
        putOnTape(c);
        putOnTape(d);
        putOnTape(e);
        return taped;
    }

    public int street(int n) throws IllegalArgumentException {
        if (n < 0 || n > taped) {
            throw new IllegalArgumentException();
        }
        taped = 0;
        boolean good = reader.read(tape, n, spare, trial);
        faultPlace = reader.faultPlace;
        if (!good) {
            refused[0]++;
            return reader.faultKind;
        }
        moveIn();
        return 0;
    }

    public int fault() {
        return faultPlace;
    }

    public int count(int what) throws NoSuchElementException {
        switch (what) {
            case 0:
                return told.houses;
            case 1:
                return told.most;
            case 2:
                return told.unlike ? 1 : 0;
            case 3:
                return life.acted;
            case 4:
                return life.lettered;
            case 5:
                return taped;
            case 6:
                return refused[0];
            case 7:
                return refused[1];
            case 8:
                return refused[2];
            default:
                throw new NoSuchElementException();
        }
    }

    public int house(int house, int what) throws NoSuchElementException {
        mustBeHouse(house);
        switch (what) {
            case 0:
                return life.sons[house];
            case 1:
                return life.debts[house];
            case 2:
                return told.hasRiddle(house) ? 1 : 0;
            case 3:
                return life.muted >> house & 1;
            case 4:
                return told.looksAt(house);
            default:
                throw new NoSuchElementException();
        }
    }

    public int become(int house, int what, int v) throws NoSuchElementException {
        mustBeHouse(house);
        mustBeWhat(what, 2);
        if (v < 0 || v > MOST_SONS) {
            refused[1]++;
            return NONE;
        }
        int old = life.had(what, house);
        life.act(what, house, v);
        forget();
        return old;
    }

    public boolean mute(int house, boolean muted) throws NoSuchElementException {
        mustBeHouse(house);
        int value = muted ? 1 : 0;
        if (!told.hasRiddle(house) || life.had(Life.MUTED, house) == value) {
            refused[1]++;
            return false;
        }
        life.act(Life.MUTED, house, value);
        forget();
        return true;
    }

    public int undo() {
        if (life.acted == 0) {
            return NONE;
        }
        life.takeBackAct();
        forget();
        return life.acted;
    }

    public int letter(int house, int number) throws NoSuchElementException {
        mustBeHouse(house);
        if (number < 1 || number > told.most || life.lettered >= Life.MOST_LETTERS) {
            refused[2]++;
            return NONE;
        }
        life.addLetter(house, number);
        forget();
        return life.lettered;
    }

    public int unletter() {
        if (life.lettered == 0) {
            return NONE;
        }
        life.lettered--;
        forget();
        return life.lettered;
    }

    public int numberings() {
        search();
        return present.found;
    }

    public int tries() {
        search();
        return present.found == SPENT ? SPENT : present.tried;
    }

    public int number(int i, int house) throws NoSuchElementException {
        mustBeHouse(house);
        search();
        if (i < 0 || i >= present.found) {
            throw new NoSuchElementException();
        }
        return present.numberIn(i, house);
    }

    public int may(int house) throws NoSuchElementException {
        mustBeHouse(house);
        search();
        return present.found == SPENT ? SPENT : present.seen[house];
    }

    public int holds(int house, long row) throws NoSuchElementException, IllegalArgumentException {
        mustBeHouse(house);
        if (row < 0 || !asking.search.giveRow(told, row)) {
            throw new IllegalArgumentException();
        }
        if (!told.hasRiddle(house)) {
            return NONE;
        }
        return told.valueOf(house, asking.search.numbers, life) != 0 ? 1 : 0;
    }

    public int knot() {
        return asking.smallestKnot(told, life);
    }

    public int liars() {
        return asking.fewestLiars(told, life);
    }

    public int looks(int what) throws NoSuchElementException {
        mustBeWhat(what, 2);
        if (!readyToLook()) {
            return SPENT;
        }
        int fewest = looking.fewestLooks();
        return what == 0 ? fewest : looking.firstDoor(fewest);
    }

    public int doors() {
        return readyToLook() ? looking.doorsAtOnce() : SPENT;
    }

    public int hints(int i) throws NoSuchElementException {
        if (!readyToLook()) {
            return SPENT;
        }
        if (i < 0 || i >= present.found) {
            throw new NoSuchElementException();
        }
        return looking.hintsFor(i);
    }

    public int post(int house, int place) throws NoSuchElementException, IllegalArgumentException {
        mustBeHouse(house);
        mustBeNumber(place);
        search();
        if (present.found == SPENT) {
            return SPENT;
        }
        int numbers = present.seen[house];
        if (numbers == 0) {
            return 0;
        }
        int low = Integer.numberOfTrailingZeros(numbers);
        int high = 31 - Integer.numberOfLeadingZeros(numbers);
        return high - low + Math.min(Math.abs(place - low), Math.abs(place - high));
    }

    public int feud(int first, int second, int what) throws NoSuchElementException, IllegalArgumentException {
        mustBeHouse(first);
        mustBeHouse(second);
        mustBeWhat(what, 2);
        if (first == second) {
            throw new IllegalArgumentException();
        }
        if (!asking.gainsOfFeud(told, life, first, second)) {
            return SPENT;
        }
        return what == 0 ? asking.restingCouples() : asking.firstRestingCouple();
    }

    public int years(int seed, int years) throws IllegalArgumentException {
        if (years < 0 || years > MOST_YEARS) {
            throw new IllegalArgumentException();
        }
        if (told.houses == 0) {
            return years;
        }
        trial.copy(life);
        draws.start(seed);
        int often = 0;
        for (int year = 0; year < years; year++) {
            int house = draws.next(told.houses);
            trial.put(Life.SONS, house, draws.next(10));
            int found = asking.upToTwo(told, trial);
            if (found == SPENT) {
                return SPENT;
            }
            if (found == 1) {
                often++;
            }
        }
        return often;
    }

    public int proof(int house) throws NoSuchElementException {
        mustBeHouse(house);
        return asking.smallestProof(told, life, house);
    }

    public int build(int what) throws NoSuchElementException, IllegalArgumentException {
        mustBeWhat(what, 2);
        if (told.houses >= MOST_HOUSES) {
            throw new IllegalArgumentException();
        }
        spare.copy(told);
        spare.addHouse();
        trial.copy(life);
        if (!asking.tryNewRiddles(spare, trial)) {
            return SPENT;
        }
        return what == 0 ? asking.goodRiddles : asking.firstGoodRiddle;
    }

    public int changed(int house, int which, int v, int what) throws NoSuchElementException, IllegalArgumentException {
        mustBeHouse(house);
        mustBeWhat(which, 2);
        mustBeWhat(what, 2);
        if (v < 0 || v > MOST_SONS) {
            throw new IllegalArgumentException();
        }
        search();
        if (present.found == SPENT) {
            return SPENT;
        }
        trial.copy(life);
        trial.put(which, house, v);
        Search then = asking.search;
        then.setUp(told, trial, told.speaking(trial), true);
        if (then.seekAll() == SPENT) {
            return SPENT;
        }
        return what == 0 ? housesChanged(then) : farFromNow(then);
    }

    public int walk(int houses, int place, int crossing) throws IllegalArgumentException {
        if ((houses & ~told.allHouses()) != 0 || crossing < 0 || crossing > 9) {
            throw new IllegalArgumentException();
        }
        mustBeNumber(place);
        search();
        if (present.found == SPENT) {
            return SPENT;
        }
        int numbers = 0;
        for (int h = 0; h < told.houses; h++) {
            if ((houses >> h & 1) != 0) {
                numbers |= present.seen[h];
            }
        }
        return walking.walkTo(numbers, place, crossing, looking.scratchRow());
    }

    public int door(int i) throws NoSuchElementException {
        if (!walking.kept || i < NONE || i >= walking.length) {
            throw new NoSuchElementException();
        }
        return i == NONE ? walking.length : walking.row[i];
    }

    public int ring(int house, int what) throws NoSuchElementException {
        mustBeHouse(house);
        mustBeWhat(what, 2);
        int speaking = told.speaking(life);
        return what == 0 ? told.ringOf(house, speaking) : told.levelOf(house, speaking);
    }

    public int written(int i) throws NoSuchElementException {
        if (!inked) {
            page.writeStreet(told, life);
            inked = true;
        }
        if (i < NONE || i >= page.length) {
            throw new NoSuchElementException();
        }
        return i == NONE ? page.length : page.bytes[i];
    }

    public int left(int house, int number) throws NoSuchElementException, IllegalArgumentException {
        mustBeHouse(house);
        mustBeNumber(number);
        search();
        return present.found == SPENT ? SPENT : present.foundWith(house, number);
    }

    public int look(int house, int what) throws NoSuchElementException {
        mustBeHouse(house);
        mustBeWhat(what, 3);
        search();
        if (present.found == SPENT) {
            return SPENT;
        }
        int most = 0;
        int squares = 0;
        for (int number = 1; number <= told.most; number++) {
            int left = present.foundWith(house, number);
            most = Math.max(most, left);
            squares += left * left;
        }
        if (what == 0) {
            return most;
        }
        if (squares == 0) {
            return what == 1 ? 0 : 1;
        }
        int divisor = commonDivisor(squares, present.found);
        return divisor < 1 ? 0 : (what == 1 ? squares : present.found) / divisor;
    }

    public int plant(int seed, int houses) throws IllegalArgumentException {
        if (houses < 1 || houses > MOST_HOUSES) {
            throw new IllegalArgumentException();
        }
        sow(seed, houses);
        moveIn();
        return Integer.bitCount(told.riddles);
    }

    public int tried(int law, int seeds, int houses, int what) throws NoSuchElementException, IllegalArgumentException {
        mustBeWhat(law, LAWS);
        mustBeWhat(what, 3);
        if (seeds < 0 || seeds > MOST_SEEDS || houses < 1 || houses > MOST_HOUSES) {
            throw new IllegalArgumentException();
        }
        int broken = 0;
        int least = NONE;
        int spent = 0;
        for (int seed = 0; seed < seeds; seed++) {
            sow(seed, houses);
            int answer = breaksLaw(law);
            if (answer == SPENT) {
                spent++;
            } else if (answer == 1) {
                broken++;
                least = least == NONE ? seed : least;
            }
        }
        return what == 0 ? broken : what == 1 ? least : spent;
    }

    public void image() {
        kept.copy(life);
        imaged = true;
    }

    public boolean restore() {
        if (!imaged) {
            return false;
        }
        life.copy(kept);
        forget();
        return true;
    }

    private void mustBeHouse(int house) {
        if (house < 0 || house >= told.houses) {
            throw new NoSuchElementException();
        }
    }

    private void mustBeWhat(int what, int below) {
        if (what < 0 || what >= below) {
            throw new NoSuchElementException();
        }
    }

    private void mustBeNumber(int number) {
        if (number < 1 || number > told.most) {
            throw new IllegalArgumentException();
        }
    }

    private void putOnTape(int number) {
        for (int shift = 24; shift >= 0 && taped < LONGEST_TAPE; shift -= 8) {
            tape[taped] = (byte) (number >> shift);
            taped++;
        }
    }

    /** What was read into the spare street becomes what is. */
    private void moveIn() {
        Street oldStreet = told;
        told = spare;
        spare = oldStreet;
        Life oldLife = life;
        life = trial;
        trial = oldLife;
        imaged = false;
        walking.kept = false;
        forget();
    }

    /** What was found or written of the street as it was is no longer so. */
    private void forget() {
        searched = false;
        inked = false;
    }

    private void search() {
        if (!searched) {
            present.setUp(told, life, told.speaking(life), true);
            present.seekAll();
            searched = true;
        }
    }

    /** False: there are too many numberings to look at doors. */
    private boolean readyToLook() {
        search();
        if (present.found == SPENT || present.found > MOST_LOOKED_AT) {
            return false;
        }
        looking.prepare(present, told.houses);
        return true;
    }

    private int housesChanged(Search then) {
        int others = 0;
        for (int h = 0; h < told.houses; h++) {
            if (present.seen[h] != then.seen[h]) {
                others++;
            }
        }
        return others;
    }

    private int farFromNow(Search then) {
        if (present.found < 1 || then.found < 1) {
            return NONE;
        }
        int far = 0;
        for (int h = 0; h < told.houses; h++) {
            far += Math.abs(present.numberIn(0, h) - then.numberIn(0, h));
        }
        return far;
    }

    private static int commonDivisor(int a, int b) {
        int big = a;
        int small = b;
        for (int i = 0; i < 64 && small > 0; i++) {
            int rest = big % small;
            big = small;
            small = rest;
        }
        return big;
    }

    /** A street by a seed comes into the spare one, by way of its text, so that it can be written back like any other. */
    private void sow(int seed, int houses) {
        draws.start(seed);
        page.length = 0;
        inked = false;
        page.writeHead(told);
        for (int h = 0; h < houses; h++) {
            page.writeSeededHouse(draws, h, told.most);
        }
        reader.read(page.bytes, page.length, spare, trial);
    }

    /** Of the spare street: 1 if a law doesn't hold of it, 0 if it does, or SPENT. */
    private int breaksLaw(int law) {
        if (law == NUMBERINGS_LAW) {
            if (spare.riddles != spare.allHouses()) {
                return 0;
            }
            int found = asking.upToTwo(spare, trial);
            return found == SPENT ? SPENT : found > 1 ? 1 : 0;
        }
        if (law == LOOKS_LAW) {
            asking.search.setUp(spare, trial, spare.riddles, true);
            int found = asking.search.seekAll();
            if (found == SPENT || found > MOST_LOOKED_AT) {
                return SPENT;
            }
            looking.prepare(asking.search, spare.houses);
            return looking.fewestLooks() < spare.houses ? 0 : 1;
        }
        int knot = asking.smallestKnot(spare, trial);
        return knot == SPENT ? SPENT : knot != NONE && Integer.bitCount(knot) > 2 ? 1 : 0;
    }

    /** What a text tells and no act changes; each riddle as a row of codes, operands ahead of what joins them. */
    private static final class Street {
        static final int DEFAULT_MOST = 9;
        // Codes: below A_NUMBER numerals, from there on a house's number, from SONS on all else.
        static final int A_NUMBER = 10000;
        static final int SONS = 20000;
        static final int DEBTS = 20001;
        static final int MOST = 20002;
        static final int NOT = 20003;
        static final int ADD = 20004;
        static final int SUBTRACT = 20005;
        static final int MULTIPLY = 20006;
        static final int DIVIDE = 20007;
        static final int LESS = 20008;
        static final int EQUAL = 20009;
        static final int AND = 20010;
        static final int OR = 20011;

        int houses = 0;
        int most = DEFAULT_MOST;
        boolean unlike = false;
        int riddles = 0;
        private final int[] looked = new int[MOST_HOUSES];
        // A text has 500 bytes, and no token is more than one code; a new house's riddle comes behind these.
        private final int[] codes = new int[520];
        private int coded = 0;
        private final int[] codesFrom = new int[MOST_HOUSES];
        private final int[] codesTo = new int[MOST_HOUSES];
        // Blanks that are put between tokens make a riddle's text longer, by less than as much again.
        final byte[] text = new byte[1000];
        private int textLength = 0;
        final int[] textFrom = new int[MOST_HOUSES];
        final int[] textTo = new int[MOST_HOUSES];
        // 6 expressions within each other, of each at most 5 operands waiting.
        private final int[] stack = new int[40];
        private final int[] levels = new int[MOST_HOUSES];

        void clear() {
            houses = 0;
            most = DEFAULT_MOST;
            unlike = false;
            riddles = 0;
            coded = 0;
            textLength = 0;
        }

        /** Not the text: a copy is never written. */
        void copy(Street other) {
            houses = other.houses;
            most = other.most;
            unlike = other.unlike;
            riddles = other.riddles;
            coded = other.coded;
            System.arraycopy(other.codes, 0, codes, 0, coded);
            System.arraycopy(other.looked, 0, looked, 0, MOST_HOUSES);
            System.arraycopy(other.codesFrom, 0, codesFrom, 0, MOST_HOUSES);
            System.arraycopy(other.codesTo, 0, codesTo, 0, MOST_HOUSES);
        }

        void addHouse() {
            if (houses >= MOST_HOUSES) {
                return;
            }
            looked[houses] = 0;
            codesFrom[houses] = coded;
            codesTo[houses] = coded;
            textFrom[houses] = textLength;
            textTo[houses] = textLength;
            houses++;
        }

        /** The last house has a riddle, in place of one that it had. */
        void beginRiddle() {
            if (houses < 1) {
                return;
            }
            int last = houses - 1;
            riddles |= 1 << last;
            looked[last] = 0;
            coded = codesFrom[last];
            codesTo[last] = coded;
        }

        void addCode(int code) {
            if (houses < 1 || coded >= codes.length) {
                return;
            }
            codes[coded] = code;
            coded++;
            codesTo[houses - 1] = coded;
            if (code >= A_NUMBER && code < SONS) {
                looked[houses - 1] |= 1 << code - A_NUMBER;
            }
        }

        /** A token of the last house's riddle; a blank keeps two of letters and digits apart. */
        void addToken(byte[] from, int begin, int end) {
            if (houses < 1 || begin < 0 || end > from.length || begin >= end || textLength + end - begin >= text.length) {
                return;
            }
            boolean first = textLength == textFrom[houses - 1];
            if (!first && isWordly(from[begin]) && isWordly(text[textLength - 1])) {
                text[textLength] = ' ';
                textLength++;
            }
            System.arraycopy(from, begin, text, textLength, end - begin);
            textLength += end - begin;
            textTo[houses - 1] = textLength;
        }

        private static boolean isWordly(int b) {
            return b >= 'a' && b <= 'z' || b >= '0' && b <= '9';
        }

        int allHouses() {
            return (1 << houses) - 1;
        }

        boolean hasRiddle(int house) {
            return (riddles >> house & 1) != 0;
        }

        int speaking(Life life) {
            return riddles & ~life.muted;
        }

        /** As bits; one behind the last house is kept in 'looked' as well, and counts once it is built. */
        int looksAt(int house) {
            return house < 0 || house >= houses ? 0 : looked[house] & allHouses();
        }

        /** The house with which a riddle can be asked. */
        int askedWith(int house) {
            int at = looksAt(house);
            return at == 0 ? house : 31 - Integer.numberOfLeadingZeros(at);
        }

        int valueOf(int house, int[] numbers, Life life) {
            if (house < 0 || house >= houses) {
                return 0;
            }
            int top = 0;
            for (int i = codesFrom[house]; i < codesTo[house]; i++) {
                int code = codes[i];
                if (code < NOT) {
                    if (top < stack.length) {
                        stack[top] = code < A_NUMBER ? code : operand(code, house, numbers, life);
                        top++;
                    }
                } else if (code == NOT) {
                    if (top > 0) {
                        stack[top - 1] = stack[top - 1] == 0 ? 1 : 0;
                    }
                } else if (top > 1) {
                    top--;
                    stack[top - 1] = joined(code, stack[top - 1], stack[top]);
                }
            }
            return top > 0 ? stack[0] : 0;
        }

        private int operand(int code, int house, int[] numbers, Life life) {
            if (code < SONS) {
                int other = code - A_NUMBER;
                return other < houses && other < numbers.length ? numbers[other] : 0;
            }
            return code == MOST ? most : code == SONS ? life.sons[house] : life.debts[house];
        }

        private static int joined(int code, int a, int b) {
            switch (code) {
                case ADD:
                    return a + b;
                case SUBTRACT:
                    return a - b;
                case MULTIPLY:
                    return a * b;
                case DIVIDE:
                    return b == 0 ? 0 : a / b;
                case LESS:
                    return a < b ? 1 : 0;
                case EQUAL:
                    return a == b ? 1 : 0;
                case AND:
                    return a != 0 && b != 0 ? 1 : 0;
                default:
                    return a != 0 || b != 0 ? 1 : 0;
            }
        }

        /** Others at which a house's riddle looks, if it speaks. */
        private int leansOn(int house, int speaking) {
            return (speaking >> house & 1) == 0 ? 0 : looksAt(house) & ~(1 << house);
        }

        int ringOf(int house, int speaking) {
            int reached = 1 << house;
            for (int steps = 1; steps <= houses; steps++) {
                int next = 0;
                for (int h = 0; h < houses; h++) {
                    if ((reached >> h & 1) != 0) {
                        next |= leansOn(h, speaking);
                    }
                }
                reached = next;
                if ((reached >> house & 1) != 0) {
                    return steps;
                }
            }
            return NONE;
        }

        /** As many rounds as there are houses are enough, as a level is below their number; a ring never gets one. */
        int levelOf(int house, int speaking) {
            if (house < 0 || house >= houses) {
                return NONE;
            }
            Arrays.fill(levels, NONE);
            for (int round = 0; round < houses; round++) {
                for (int h = 0; h < houses; h++) {
                    levels[h] = levelBy(leansOn(h, speaking));
                }
            }
            return levels[house];
        }

        private int levelBy(int others) {
            int level = 0;
            for (int h = 0; h < houses; h++) {
                if ((others >> h & 1) != 0) {
                    if (levels[h] == NONE) {
                        return NONE;
                    }
                    level = Math.max(level, levels[h] + 1);
                }
            }
            return level;
        }
    }

    /** What acts and letters change, all of which an image keeps. */
    private static final class Life {
        static final int SONS = 0;
        static final int DEBTS = 1;
        static final int MUTED = 2;
        static final int MOST_LETTERS = 10;
        static final int MOST_ACTS = 30;

        final int[] sons = new int[MOST_HOUSES];
        final int[] debts = new int[MOST_HOUSES];
        int muted = 0;
        // An act is 1000 by its kind, 100 by its house and what there was ahead of it.
        private final int[] acts = new int[MOST_ACTS];
        int acted = 0;
        private final int[] letterHouses = new int[MOST_LETTERS];
        private final int[] letterNumbers = new int[MOST_LETTERS];
        int lettered = 0;

        void clear() {
            Arrays.fill(sons, 0);
            Arrays.fill(debts, 0);
            muted = 0;
            acted = 0;
            lettered = 0;
        }

        void copy(Life other) {
            System.arraycopy(other.sons, 0, sons, 0, MOST_HOUSES);
            System.arraycopy(other.debts, 0, debts, 0, MOST_HOUSES);
            muted = other.muted;
            System.arraycopy(other.acts, 0, acts, 0, MOST_ACTS);
            acted = other.acted;
            System.arraycopy(other.letterHouses, 0, letterHouses, 0, MOST_LETTERS);
            System.arraycopy(other.letterNumbers, 0, letterNumbers, 0, MOST_LETTERS);
            lettered = other.lettered;
        }

        int had(int kind, int house) {
            if (house < 0 || house >= MOST_HOUSES) {
                return 0;
            }
            return kind == SONS ? sons[house] : kind == DEBTS ? debts[house] : muted >> house & 1;
        }

        void put(int kind, int house, int value) {
            if (house < 0 || house >= MOST_HOUSES) {
                return;
            }
            if (kind == SONS) {
                sons[house] = value;
            } else if (kind == DEBTS) {
                debts[house] = value;
            } else {
                muted = muted & ~(1 << house) | value << house;
            }
        }

        void act(int kind, int house, int value) {
            if (acted == MOST_ACTS) {
                System.arraycopy(acts, 1, acts, 0, MOST_ACTS - 1);
                acted--;
            }
            acts[acted] = 1000 * kind + 100 * house + had(kind, house);
            acted++;
            put(kind, house, value);
        }

        void takeBackAct() {
            if (acted < 1) {
                return;
            }
            acted--;
            int act = acts[acted];
            put(act / 1000, act / 100 % 10, act % 100);
        }

        void addLetter(int house, int number) {
            if (lettered >= MOST_LETTERS) {
                return;
            }
            letterHouses[lettered] = house;
            letterNumbers[lettered] = number;
            lettered++;
        }

        /** Numbers that all letters of a house leave to it, as bits. */
        int lettersLeave(int house) {
            int left = -1;
            for (int i = 0; i < lettered; i++) {
                if (letterHouses[i] == house) {
                    left &= 1 << letterNumbers[i];
                }
            }
            return left;
        }
    }

    /** Reads a text, token by token, into a street and a life, up to its first fault. */
    private static final class Reader {
        static final int MOST_WITHIN = 6;
        static final int MOST_NOTS = 6;
        static final int BLANK = 32;
        static final int LINE_END = 10;

        // Kinds of tokens: a sign is its own byte, words are from WORD on.
        static final int ENDED = 0;
        static final int NO_TOKEN = 1;
        static final int NUMERAL = 2;
        static final int WORD = 128;
        static final int MOST = 129;
        static final int UNLIKE = 130;
        static final int HOUSE = 131;
        static final int SAYS = 132;
        static final int OR = 133;
        static final int AND = 134;
        static final int NOT = 135;
        static final int HERE = 136;
        static final int BEFORE = 137;
        static final int AFTER = 138;
        static final int SONS = 139;
        static final int DEBTS = 140;
        static final int OF = 141;

        static final int WRONG = 1;
        static final int TOO_MUCH = 2;
        static final int NO_VALUE = 3;
        static final int TWICE = 4;

        private byte[] text = new byte[0];
        private int length = 0;
        private final int[] kinds = new int[LONGEST_TAPE + 1];
        private final int[] begins = new int[LONGEST_TAPE + 1];
        private final int[] ends = new int[LONGEST_TAPE + 1];
        private int tokens = 0;
        private int at = 0;
        private int kind = ENDED;
        private Street street = null;
        private Life life = null;
        private boolean mostTold = false;
        int faultKind = 0;
        int faultPlace = NONE;

        boolean read(byte[] bytes, int n, Street s, Life l) {
            text = bytes;
            length = Math.min(Math.min(n, bytes.length), LONGEST_TAPE);
            street = s;
            life = l;
            street.clear();
            life.clear();
            mostTold = false;
            faultKind = 0;
            faultPlace = NONE;
            cutIntoTokens();
            at = 0;
            kind = kinds[0];
            for (int line = 0; line < tokens && kind != ENDED && faultKind == 0; line++) {
                if (kind == MOST) {
                    readMost();
                } else if (kind == UNLIKE) {
                    readUnlike();
                } else if (kind == HOUSE) {
                    readHouse();
                } else {
                    fail(WRONG);
                }
                pass(';');
            }
            return faultKind == 0;
        }

        private void cutIntoTokens() {
            tokens = 0;
            int begin = 0;
            for (int i = 0; i < LONGEST_TAPE && begin < length; i++) {
                int b = text[begin];
                int end = begin + 1;
                if (isLetter(b)) {
                    end = endOfLetters(begin);
                    addToken(kindOfWord(begin, end), begin, end);
                } else if (isDigit(b)) {
                    end = endOfDigits(begin);
                    addToken(NUMERAL, begin, end);
                } else if (b != BLANK && b != LINE_END) {
                    addToken(isSign(b) ? b : NO_TOKEN, begin, end);
                }
                begin = end;
            }
            addToken(ENDED, length, length);
        }

        private void addToken(int k, int begin, int end) {
            if (tokens >= kinds.length) {
                return;
            }
            kinds[tokens] = k;
            begins[tokens] = begin;
            ends[tokens] = end;
            tokens++;
        }

        private static boolean isLetter(int b) {
            return b >= 'a' && b <= 'z';
        }

        private static boolean isDigit(int b) {
            return b >= '0' && b <= '9';
        }

        private static boolean isSign(int b) {
            return b == ';' || b == '(' || b == ')' || b == '+' || b == '-' || b == '*' || b == '/' || b == '<' || b == '=';
        }

        private int endOfLetters(int begin) {
            int end = begin;
            for (int i = begin; i < length && isLetter(text[i]); i++) {
                end = i + 1;
            }
            return end;
        }

        private int endOfDigits(int begin) {
            int end = begin;
            for (int i = begin; i < length && isDigit(text[i]); i++) {
                end = i + 1;
            }
            return end;
        }

        private int kindOfWord(int begin, int end) {
            if (spells("most", begin, end)) {
                return MOST;
            } else if (spells("unlike", begin, end)) {
                return UNLIKE;
            } else if (spells("house", begin, end)) {
                return HOUSE;
            } else if (spells("says", begin, end)) {
                return SAYS;
            } else if (spells("or", begin, end)) {
                return OR;
            } else if (spells("and", begin, end)) {
                return AND;
            } else if (spells("not", begin, end)) {
                return NOT;
            } else if (spells("here", begin, end)) {
                return HERE;
            } else if (spells("before", begin, end)) {
                return BEFORE;
            } else if (spells("after", begin, end)) {
                return AFTER;
            } else if (spells("sons", begin, end)) {
                return SONS;
            } else if (spells("debts", begin, end)) {
                return DEBTS;
            } else if (spells("of", begin, end)) {
                return OF;
            }
            return WORD;
        }

        private boolean spells(String word, int begin, int end) {
            if (end - begin != word.length()) {
                return false;
            }
            for (int i = 0; i < word.length(); i++) {
                if (text[begin + i] != word.charAt(i)) {
                    return false;
                }
            }
            return true;
        }

        private void fail(int fault) {
            if (faultKind == 0) {
                faultKind = fault;
                faultPlace = begins[at];
            }
        }

        private void next() {
            if (at < tokens - 1) {
                at++;
                kind = kinds[at];
            }
        }

        private void pass(int wanted) {
            if (kind != wanted) {
                fail(WRONG);
            } else {
                next();
            }
        }

        private void readMost() {
            if (mostTold) {
                fail(TWICE);
                return;
            }
            mostTold = true;
            next();
            street.most = numeral(2, 20);
            next();
        }

        private void readUnlike() {
            if (street.unlike) {
                fail(TWICE);
                return;
            }
            street.unlike = true;
            next();
        }

        private void readHouse() {
            int house = street.houses;
            if (house >= MOST_HOUSES) {
                fail(TOO_MUCH);
                return;
            }
            street.addHouse();
            next();
            if (kind == NUMERAL) {
                life.put(Life.SONS, house, numeral(0, MOST_SONS));
                next();
                if (kind == NUMERAL && faultKind == 0) {
                    life.put(Life.DEBTS, house, numeral(0, MOST_SONS));
                    next();
                }
            }
            if (kind == SAYS && faultKind == 0) {
                next();
                street.beginRiddle();
                readExpression(0);
            }
        }

        /** The value of the numeral that must stand here, from low to high; a fault gives low, which nobody uses. */
        private int numeral(int low, int high) {
            if (faultKind != 0) {
                return low;
            }
            if (kind != NUMERAL) {
                fail(WRONG);
                return low;
            }
            if (ends[at] - begins[at] > 4) {
                fail(TOO_MUCH);
                return low;
            }
            int value = 0;
            for (int i = begins[at]; i < ends[at] && i < length; i++) {
                value = 10 * value + text[i] - '0';
            }
            if (value < low || value > high) {
                fail(TOO_MUCH);
                return low;
            }
            return value;
        }

        /** A riddle's token is written down as told, and passed. */
        private void take() {
            street.addToken(text, begins[at], Math.min(ends[at], length));
            next();
        }

        private void readExpression(int within) {
            if (within >= MOST_WITHIN) {
                fail(kind == NUMERAL || kind >= WORD || kind == '(' ? TOO_MUCH : WRONG);
                return;
            }
            readBoth(within);
            for (int i = 0; i < LONGEST_TAPE && kind == OR && faultKind == 0; i++) {
                take();
                readBoth(within);
                street.addCode(Street.OR);
            }
        }

        private void readBoth(int within) {
            readNot(within);
            for (int i = 0; i < LONGEST_TAPE && kind == AND && faultKind == 0; i++) {
                take();
                readNot(within);
                street.addCode(Street.AND);
            }
        }

        private void readNot(int within) {
            int nots = 0;
            for (int i = 0; i <= MOST_NOTS && kind == NOT && faultKind == 0; i++) {
                if (nots == MOST_NOTS) {
                    fail(TOO_MUCH);
                } else {
                    nots++;
                    take();
                }
            }
            readTest(within);
            for (int i = 0; i < nots; i++) {
                street.addCode(Street.NOT);
            }
        }

        private void readTest(int within) {
            readSum(within);
            if ((kind == '<' || kind == '=') && faultKind == 0) {
                int code = kind == '<' ? Street.LESS : Street.EQUAL;
                take();
                readSum(within);
                street.addCode(code);
            }
        }

        private void readSum(int within) {
            readProduct(within);
            for (int i = 0; i < LONGEST_TAPE && (kind == '+' || kind == '-') && faultKind == 0; i++) {
                int code = kind == '+' ? Street.ADD : Street.SUBTRACT;
                take();
                readProduct(within);
                street.addCode(code);
            }
        }

        private void readProduct(int within) {
            readPart(within);
            for (int i = 0; i < LONGEST_TAPE && (kind == '*' || kind == '/') && faultKind == 0; i++) {
                int code = kind == '*' ? Street.MULTIPLY : Street.DIVIDE;
                take();
                readPart(within);
                street.addCode(code);
            }
        }

        private void readPart(int within) {
            if (faultKind != 0) {
                return;
            }
            if (kind == NUMERAL) {
                street.addCode(numeral(0, 9999));
                take();
            } else if (kind == OF) {
                take();
                street.addCode(Street.A_NUMBER + numeral(0, MOST_HOUSES - 1));
                take();
            } else if (kind == '(') {
                take();
                readExpression(within + 1);
                if (faultKind == 0 && kind != ')') {
                    fail(WRONG);
                }
                take();
            } else if (codeOfValue() != NONE) {
                street.addCode(codeOfValue());
                take();
            } else {
                fail(kind >= WORD ? NO_VALUE : WRONG);
            }
        }

        private int codeOfValue() {
            int house = street.houses - 1;
            switch (kind) {
                case HERE:
                    return Street.A_NUMBER + house;
                case BEFORE:
                    return house == 0 ? 0 : Street.A_NUMBER + house - 1;
                case AFTER:
                    return Street.A_NUMBER + house + 1;
                case SONS:
                    return Street.SONS;
                case DEBTS:
                    return Street.DEBTS;
                case MOST:
                    return Street.MOST;
                default:
                    return NONE;
            }
        }
    }

    /** Gives houses numbers, one try behind the other, and keeps the numberings that it finds. */
    private static final class Search {
        static final int MOST_TRIES = 20000;
        static final int MOST_FOUND = 1000;
        // A step is a try, a number that is barred, or a way back: there are no more of the latter two than of tries.
        static final int MOST_STEPS = 100000;

        private Street street = null;
        private Life life = null;
        private final int[] asked = new int[MOST_HOUSES];
        private final int[] allowed = new int[MOST_HOUSES];
        private int barredHouse = NONE;
        private int barredNumber = 0;
        final int[] numbers = new int[MOST_HOUSES];
        private final long[] rows = new long[MOST_FOUND];
        final int[] seen = new int[MOST_HOUSES];
        int tried = 0;
        int found = 0;

        /** Riddles (as bits) are those that are asked. */
        void setUp(Street s, Life l, int riddles, boolean withLetters) {
            street = s;
            life = l;
            barredHouse = NONE;
            Arrays.fill(asked, 0);
            for (int h = 0; h < s.houses; h++) {
                if ((riddles >> h & 1) != 0) {
                    asked[s.askedWith(h)] |= 1 << h;
                }
                allowed[h] = withLetters ? l.lettersLeave(h) : -1;
            }
        }

        void bar(int house, int number) {
            barredHouse = house;
            barredNumber = number;
        }

        /** How many numberings there are, all of them kept, or SPENT. */
        int seekAll() {
            if (seek(MOST_FOUND + 1) > MOST_FOUND) {
                found = SPENT;
            }
            return found;
        }

        /** As many numberings as there are, up to so many as are enough, or SPENT. */
        int seek(int enough) {
            tried = 0;
            found = 0;
            Arrays.fill(numbers, 0);
            Arrays.fill(seen, 0);
            if (street == null || life == null) {
                return found;
            }
            int last = street.houses - 1;
            if (last < 0) {
                keep();
                return found;
            }
            int house = 0;
            for (int step = 0; step < MOST_STEPS && house >= 0; step++) {
                if (numbers[house] >= street.most) {
                    numbers[house] = 0;
                    house--;
                    continue;
                }
                numbers[house]++;
                if (house == barredHouse && numbers[house] == barredNumber) {
                    continue;
                }
                if (tried == MOST_TRIES) {
                    found = SPENT;
                    return found;
                }
                tried++;
                if (stands(house)) {
                    if (house < last) {
                        house++;
                    } else {
                        keep();
                        if (found == enough) {
                            return found;
                        }
                    }
                }
            }
            return found;
        }

        private boolean stands(int house) {
            int number = numbers[house];
            if ((allowed[house] >> number & 1) == 0) {
                return false;
            }
            if (street.unlike) {
                for (int h = 0; h < house; h++) {
                    if (numbers[h] == number) {
                        return false;
                    }
                }
            }
            int riddles = asked[house];
            for (int h = 0; h < MOST_HOUSES && riddles >> h != 0; h++) {
                if ((riddles >> h & 1) != 0 && street.valueOf(h, numbers, life) == 0) {
                    return false;
                }
            }
            return true;
        }

        private void keep() {
            long row = 0;
            for (int h = 0; h < street.houses; h++) {
                row |= (long) numbers[h] << 5 * h;
                seen[h] |= 1 << numbers[h];
            }
            if (found < MOST_FOUND) {
                rows[found] = row;
            }
            found++;
        }

        int numberIn(int i, int house) {
            return i < 0 || i >= MOST_FOUND ? 0 : (int) (rows[i] >> 5 * house) & 31;
        }

        int foundWith(int house, int number) {
            int with = 0;
            for (int i = 0; i < found; i++) {
                if (numberIn(i, house) == number) {
                    with++;
                }
            }
            return with;
        }

        /** Houses have the numbers of a row, or false, if one of them is none. */
        boolean giveRow(Street s, long row) {
            for (int h = 0; h < s.houses; h++) {
                int number = (int) (row >> 5 * h) & 31;
                if (number < 1 || number > s.most) {
                    return false;
                }
                numbers[h] = number;
            }
            return true;
        }
    }

    /** Questions that take more than one search. */
    private static final class Asking {
        final Search search = new Search();
        // Gains by couples: 2 if the first one hides its riddle, and 1 if the second one does.
        private final int[] firstGains = new int[4];
        private final int[] secondGains = new int[4];
        int goodRiddles = 0;
        int firstGoodRiddle = NONE;

        /** 0, 1, 2 (or more) numberings, or SPENT. */
        int upToTwo(Street street, Life life) {
            search.setUp(street, life, street.speaking(life), true);
            return search.seek(2);
        }

        int smallestKnot(Street street, Life life) {
            int speaking = street.speaking(life);
            for (int size = 0; size <= Integer.bitCount(speaking); size++) {
                for (int set = 0; set <= speaking; set++) {
                    if (isSubset(set, size, speaking)) {
                        search.setUp(street, life, set, false);
                        int found = search.seek(1);
                        if (found < 1) {
                            return found == SPENT ? SPENT : set;
                        }
                    }
                }
            }
            return NONE;
        }

        int fewestLiars(Street street, Life life) {
            int speaking = street.speaking(life);
            for (int size = 0; size <= Integer.bitCount(speaking); size++) {
                for (int set = 0; set <= speaking; set++) {
                    if (isSubset(set, size, speaking)) {
                        search.setUp(street, life, speaking & ~set, true);
                        int found = search.seek(2);
                        if (found == 1 || found == SPENT) {
                            return found == SPENT ? SPENT : set;
                        }
                    }
                }
            }
            return NONE;
        }

        int smallestProof(Street street, Life life, int house) {
            int speaking = street.speaking(life);
            for (int size = 0; size <= Integer.bitCount(speaking); size++) {
                for (int set = 0; set <= speaking; set++) {
                    if (isSubset(set, size, speaking)) {
                        search.setUp(street, life, set, false);
                        int sure = makesSure(house);
                        if (sure != 0) {
                            return sure == SPENT ? SPENT : set;
                        }
                    }
                }
            }
            return NONE;
        }

        private int makesSure(int house) {
            int found = search.seek(1);
            if (found < 1) {
                return found;
            }
            search.bar(house, search.numberIn(0, house));
            int others = search.seek(1);
            return others == SPENT ? SPENT : 1 - others;
        }

        private static boolean isSubset(int set, int size, int of) {
            return (set & ~of) == 0 && Integer.bitCount(set) == size;
        }

        /** False: one of the four couples is SPENT. */
        boolean gainsOfFeud(Street street, Life life, int first, int second) {
            for (int couple = 0; couple < 4; couple++) {
                int hidden = (couple >> 1) << first | (couple & 1) << second;
                search.setUp(street, life, street.speaking(life) & ~hidden, true);
                if (search.seekAll() == SPENT) {
                    return false;
                }
                boolean firstSure = Integer.bitCount(search.seen[first]) == 1;
                boolean secondSure = Integer.bitCount(search.seen[second]) == 1;
                firstGains[couple] = (firstSure ? 2 : 0) + (secondSure ? 0 : 1);
                secondGains[couple] = (secondSure ? 2 : 0) + (firstSure ? 0 : 1);
            }
            return true;
        }

        private boolean rests(int couple) {
            return firstGains[couple] >= firstGains[couple ^ 2] && secondGains[couple] >= secondGains[couple ^ 1];
        }

        int restingCouples() {
            int resting = 0;
            for (int couple = 0; couple < 4; couple++) {
                if (rests(couple)) {
                    resting++;
                }
            }
            return resting;
        }

        int firstRestingCouple() {
            for (int couple = 0; couple < 4; couple++) {
                if (rests(couple)) {
                    return couple;
                }
            }
            return NONE;
        }

        /** Tries all riddles that a new house, the last one of the street, may have; false: one of them is SPENT. */
        boolean tryNewRiddles(Street street, Life life) {
            int last = street.houses - 1;
            goodRiddles = 0;
            firstGoodRiddle = NONE;
            boolean good = true;
            for (int c = 1; c <= street.most && good; c++) {
                street.beginRiddle();
                street.addCode(Street.A_NUMBER + last);
                street.addCode(c);
                good = countRiddle(street, life, c);
            }
            for (int k = 0; k < last; k++) {
                for (int c = 0; c <= 9 && good; c++) {
                    beginRiddleOfTwo(street, k, c);
                    street.addCode(Street.ADD);
                    good = countRiddle(street, life, 1000 + 100 * k + c);
                }
            }
            for (int k = 0; k < last; k++) {
                for (int c = 2; c <= 9 && good; c++) {
                    beginRiddleOfTwo(street, k, c);
                    street.addCode(Street.MULTIPLY);
                    good = countRiddle(street, life, 2000 + 100 * k + c);
                }
            }
            return good;
        }

        private void beginRiddleOfTwo(Street street, int k, int c) {
            street.beginRiddle();
            street.addCode(Street.A_NUMBER + street.houses - 1);
            street.addCode(Street.A_NUMBER + k);
            street.addCode(c);
        }

        private boolean countRiddle(Street street, Life life, int name) {
            street.addCode(Street.EQUAL);
            search.setUp(street, life, street.speaking(life), true);
            int found = search.seek(2);
            if (found == 1) {
                firstGoodRiddle = goodRiddles == 0 ? name : firstGoodRiddle;
                goodRiddles++;
            }
            return found != SPENT;
        }
    }

    /** Looks at doors, by at most 40 numberings, sets of which are bits of a long. */
    private static final class Looking {
        // For each set of doors looked at and each numbering, which is enough for a walk's row as well.
        static final int SCRATCH = (1 << MOST_HOUSES) * MOST_LOOKED_AT;
        static final int UNKNOWN = -1;

        private int houses = 0;
        private int count = 0;
        // For each house and numbering: the numberings that have the same number there.
        private final long[] alike = new long[MOST_HOUSES * MOST_LOOKED_AT];
        // The fewest looks; a walk, which never goes on at the same time, uses this row too. By far the longest row of
        // all, it is made when it is first needed, and used again from then on.
        private int[] scratch = null;

        int[] scratchRow() {
            if (scratch == null) {
                scratch = new int[SCRATCH];
            }
            return scratch;
        }

        void prepare(Search search, int howManyHouses) {
            houses = Math.min(howManyHouses, MOST_HOUSES);
            count = Math.min(search.found, MOST_LOOKED_AT);
            for (int h = 0; h < houses; h++) {
                for (int i = 0; i < count; i++) {
                    long same = 0;
                    for (int j = 0; j < count; j++) {
                        if (search.numberIn(i, h) == search.numberIn(j, h)) {
                            same |= 1L << j;
                        }
                    }
                    alike[h * MOST_LOOKED_AT + i] = same;
                }
            }
        }

        private long allNumberings() {
            return (1L << count) - 1;
        }

        int fewestLooks() {
            if (count < 2) {
                return 0;
            }
            int[] known = scratchRow();
            int used = (1 << houses) * MOST_LOOKED_AT;
            for (int i = 0; i < used && i < known.length; i++) {
                known[i] = UNKNOWN;
            }
            return fewestLooksAmong(allNumberings(), 0);
        }

        /** Only behind fewestLooks(). */
        int firstDoor(int looks) {
            for (int h = 0; h < houses && looks > 0; h++) {
                if (1 + worstBehind(h, allNumberings(), 0) == looks) {
                    return h;
                }
            }
            return NONE;
        }

        /** A set of numberings is told by the doors that were looked at and its least one, by which it is remembered. */
        private int fewestLooksAmong(long set, int looked) {
            if ((set & set - 1) == 0) {
                return 0;
            }
            int[] known = scratchRow();
            int at = looked * MOST_LOOKED_AT + Long.numberOfTrailingZeros(set);
            if (at < 0 || at >= known.length) {
                return 0;
            }
            if (known[at] == UNKNOWN) {
                int best = MOST_HOUSES;
                for (int h = 0; h < houses; h++) {
                    if ((looked >> h & 1) == 0) {
                        best = Math.min(best, 1 + worstBehind(h, set, looked));
                    }
                }
                known[at] = best;
            }
            return known[at];
        }

        /** Looks that are needed at worst when a door has been looked at. */
        private int worstBehind(int house, long set, int looked) {
            int worst = 0;
            long rest = set;
            for (int i = 0; i < count && rest != 0; i++) {
                if ((rest >> i & 1) != 0) {
                    long same = set & alike[house * MOST_LOOKED_AT + i];
                    // A door that tells nothing is never the best one.
                    worst = same == set ? MOST_HOUSES : Math.max(worst, fewestLooksAmong(same, looked | 1 << house));
                    rest &= ~same;
                }
            }
            return worst;
        }

        private boolean tellsApart(int doors, int numbering) {
            long same = allNumberings();
            for (int h = 0; h < houses; h++) {
                if ((doors >> h & 1) != 0) {
                    same &= alike[h * MOST_LOOKED_AT + numbering];
                }
            }
            return same == 1L << numbering;
        }

        private boolean tellsAllApart(int doors) {
            for (int i = 0; i < count; i++) {
                if (!tellsApart(doors, i)) {
                    return false;
                }
            }
            return true;
        }

        int doorsAtOnce() {
            for (int size = 0; size <= houses; size++) {
                for (int doors = 0; doors < 1 << houses; doors++) {
                    if (Integer.bitCount(doors) == size && tellsAllApart(doors)) {
                        return doors;
                    }
                }
            }
            return NONE;
        }

        int hintsFor(int numbering) {
            for (int size = 0; size <= houses; size++) {
                for (int doors = 0; doors < 1 << houses; doors++) {
                    if (Integer.bitCount(doors) == size && tellsApart(doors, numbering)) {
                        return doors;
                    }
                }
            }
            return NONE;
        }
    }

    /** The shortest walk to some numbers of a street of two sides. */
    private static final class Walking {
        private final int[] goals = new int[MOST_WALKED];
        private int goalCount = 0;
        private int crossing = 0;
        // For each set of goals that were come by and the last one of these: how long the rest is.
        private int[] rest = null;
        final int[] row = new int[MOST_WALKED];
        int length = 0;
        boolean kept = false;

        int walkTo(int numbers, int place, int crossingCosts, int[] scratch) {
            if (Integer.bitCount(numbers) > MOST_WALKED || scratch.length < MOST_WALKED << MOST_WALKED) {
                return SPENT;
            }
            rest = scratch;
            goalCount = 0;
            for (int number = 1; number < 31 && goalCount < MOST_WALKED; number++) {
                if ((numbers >> number & 1) != 0) {
                    goals[goalCount] = number;
                    goalCount++;
                }
            }
            crossing = crossingCosts;
            for (int been = (1 << goalCount) - 1; been > 0; been--) {
                for (int last = 0; last < goalCount; last++) {
                    if ((been >> last & 1) != 0) {
                        rest[been * MOST_WALKED + last] = shortestFrom(goals[last], been);
                    }
                }
            }
            keepRow(place);
            return shortestFrom(place, 0);
        }

        private int shortestFrom(int from, int been) {
            if (been == (1 << goalCount) - 1) {
                return 0;
            }
            int shortest = Integer.MAX_VALUE;
            for (int goal = 0; goal < goalCount; goal++) {
                if ((been >> goal & 1) == 0) {
                    shortest = Math.min(shortest, lengthBy(goal, from, been));
                }
            }
            return shortest;
        }

        private int lengthBy(int goal, int from, int been) {
            return far(from, goals[goal]) + rest[(been | 1 << goal) * MOST_WALKED + goal];
        }

        private int far(int v, int w) {
            return Math.abs((v + 1) / 2 - (w + 1) / 2) + ((v - w) % 2 != 0 ? crossing : 0);
        }

        /** Of walks that are as short, the least goal is taken each time. */
        private void keepRow(int place) {
            int been = 0;
            int from = place;
            for (int i = 0; i < goalCount; i++) {
                int shortest = shortestFrom(from, been);
                int next = 0;
                for (int goal = goalCount - 1; goal >= 0; goal--) {
                    if ((been >> goal & 1) == 0 && lengthBy(goal, from, been) == shortest) {
                        next = goal;
                    }
                }
                been |= 1 << next;
                from = goals[next];
                row[i] = from;
            }
            length = goalCount;
            kept = true;
        }
    }

    /** What a seed says. */
    private static final class Draws {
        private int seed = 0;

        void start(int s) {
            seed = s;
        }

        int next(int n) {
            seed = seed * 1103515245 + 12345;
            return n < 1 ? 0 : (seed >> 16 & 0x7fff) % n;
        }
    }

    /** Where a street is written. */
    private static final class Page {
        // The street's riddles, at most 1000, and for each house its name, sons, debts.
        final byte[] bytes = new byte[1200];
        int length = 0;

        private void put(int b) {
            if (length < bytes.length) {
                bytes[length] = (byte) b;
                length++;
            }
        }

        private void putWord(String word) {
            for (int i = 0; i < word.length(); i++) {
                put(word.charAt(i));
            }
        }

        /** From 0 to 99. */
        private void putNumber(int number) {
            if (number > 9) {
                put('0' + number / 10);
            }
            put('0' + number % 10);
        }

        void writeHead(Street street) {
            putWord("most ");
            putNumber(street.most);
            putWord(street.unlike ? ";unlike;" : ";");
        }

        void writeStreet(Street street, Life life) {
            length = 0;
            writeHead(street);
            for (int h = 0; h < street.houses; h++) {
                putWord("house ");
                putNumber(life.sons[h]);
                put(' ');
                putNumber(life.debts[h]);
                if (street.hasRiddle(h)) {
                    putWord(" says ");
                    for (int i = street.textFrom[h]; i < street.textTo[h]; i++) {
                        put(street.text[i]);
                    }
                }
                put(';');
            }
        }

        void writeSeededHouse(Draws draws, int house, int most) {
            putWord("house");
            int kind = draws.next(4);
            if (kind == 1) {
                putWord(" says here=");
                putNumber(1 + draws.next(most));
            } else if (kind == 2 && house > 0) {
                putWord(" says here=of ");
                putNumber(draws.next(house));
                put('+');
                putNumber(draws.next(4));
            } else if (kind == 3 && house > 0) {
                putWord(" says not here=of ");
                putNumber(draws.next(house));
            }
            put(';');
        }
    }
}
