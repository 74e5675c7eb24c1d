/** Each sentence of the document that names a boundary of promises 17, 18 and 25: knots, liars, proofs. */
public final class EdgesOfSetsTest {
    private static final int SPENT = -2;
    private static final int NONE = RiddleDoors.NONE;
    /** Never holds, and is asked with the last of four houses of 20 numbers only: too late. */
    private static final String TOO_LATE = "of 3=0";

    public static void main(String[] args) {
        noKnot();
        smallestKnot();
        leastKnot();
        emptyKnot();
        knotAtAll();
        knotOfExactlyTwentyThousand();
        knotSpentInOrder();
        knotWithout();
        nobody();
        noLiars();
        smallestLiars();
        leastLiars();
        liarsSpentInOrder();
        liarsByExactlyTwentyThousand();
        liarsWithout();
        noProof();
        smallestProof();
        emptyProof();
        proofFirstQuestion();
        proofSecondQuestion();
        proofOfExactlyTwentyThousand();
        proofNoTry();
        proofSpentInOrder();
        proofWithout();
        wrongHouses();
        Check.end();
    }

    private static void knot(String text, int knot) {
        Check.due("knot of " + text, Check.street(text).knot(), knot);
    }

    private static void liars(String text, int liars) {
        Check.due("liars of " + text, Check.street(text).liars(), liars);
    }

    private static void proof(String text, int house, int proof) {
        Check.due("proof of " + house + " of " + text, Check.street(text).proof(house), proof);
    }

    private static void noKnot() {
        Check.says("none, if all can");
        knot("", NONE);
        knot("house;", NONE);
        knot("house says here=9;", NONE);
        knot("most 2;" + "house says here=2;".repeat(8), NONE);
        knot("most 8;unlike;" + "house;".repeat(7) + "house says here=8;", NONE);
    }

    private static void smallestKnot() {
        Check.says("A KNOT: the smallest set of RIDDLES (that aren't MUTED) which can't hold together");
        knot("house says here=0;", 1);
        knot("house says here=1;house says of 0=2;house says here=0;", 4);
        knot("house says here=1;house says of 0=2;", 3);
        knot("most 3;house says here<after;house says here<after;house says here<after;house;", 7);
        knot("most 2;" + "house says not here=after;".repeat(2) + "house says not here=of 0;", 7);
        knot("most 8;" + "house says here<after;".repeat(7) + "house says here<of 0;", SPENT);
        knot("most 3;house says here<after;house says here<after;house says here<after;house says here<after;house;", 7);
    }

    private static void leastKnot() {
        Check.says("of as small ones the least as bits of HOUSES");
        knot("house;house says here=0;house says here=0;", 2);
        // 0 and 3, 1 and 2: 9 and 6
        knot("house says here=1;house says here=1;house says before=2;house says of 0=2;", 6);
        knot("most 2;" + "house;".repeat(6) + "house says here=1;house says before=2;", 192);
        // 1 and 2, 0 and 2
        knot("house says here=1;house says of 0=1;house says of 0=2;", 5);
    }

    private static void emptyKnot() {
        Check.says("the empty one first");
        knot("most 2;unlike;house;house;", NONE);
        knot("most 2;unlike;house;house;house;", 0);
        knot("most 2;unlike;house says here=0;house;house;", 0);
        knot("most 6;unlike;" + "house;".repeat(7), 0);
        knot("most 7;unlike;" + "house;".repeat(8), SPENT);
    }

    private static void knotAtAll() {
        Check.says("(Whether there is one at all.)");
        String free = "most 20;house;house;house;house says ";
        knot(free + "of 0=3 and of 1=8 and of 2=10 and here=19;", NONE);
        knot(free + "of 0=3 and of 1=8 and of 2=10 and here=20;", SPENT);
        knot(free + "of 0=3 and of 1=8 and of 2=11 and here;", SPENT);
        knot(free + "here=20;", NONE);
        knot("most 20;" + "house;".repeat(8), NONE);
        knot("most 20;" + "house says here=20;".repeat(8), NONE);
    }

    /** Two that can't be together, by 8420 tries of three houses and 20 for each of so many that the first leaves. */
    private static void knotOfExactlyTwentyThousand() {
        Check.says("SPENT: there would be more than 20000 TRIES.");
        String index = "(of 0-1)*400+(of 1-1)*20+of 2";
        String text = "most 20;house;house;house says " + index + "<580;house says here and 579<" + index + ";";
        knot(text, 12);
        knot(text.replace("580", "581").replace("579", "580"), SPENT);
    }

    private static void knotSpentInOrder() {
        Check.says("Each is SPENT, as soon as some set that is asked is (sets by how many are in them, then as bits, the empty one first).");
        String four = "most 20;house says %s;house says %s;house says %s;house says %s;";
        knot(String.format(four, "here=0", TOO_LATE, "1", "1"), 1);
        knot(String.format(four, TOO_LATE, "here=0", "1", "1"), SPENT);
        knot(String.format(four, "1", "here=0", "1", "here=0"), 2);
        knot(String.format(four, "1", "1", TOO_LATE, "of 0=0"), SPENT);
        knot(String.format(four, "here=1", "of 0=2", "1", "1"), 3);
        knot(String.format(four, "here=1", "of 0=2", TOO_LATE, "1"), SPENT);
        // A set of two that is asked ahead of 9 is spent: 1 and 2 hold but with 20 of the last one's numbers each.
        knot(String.format(four, "here=1", "of 3=1", "of 3=2", "of 0=2"), SPENT);
        knot(String.format(four, "here=1", "of 0=2", "of 3=1", "of 3=2"), 3);
    }

    private static void knotWithout() {
        Check.says("(with UNLIKE, without LETTERS)");
        knot("unlike;house says here=3;house says here=3;", 3);
        RiddleDoors doors = Check.street("house says here=1;house says here=2;");
        doors.letter(0, 2);
        Check.due("a letter makes none", doors.knot(), NONE);
        RiddleDoors muted = Check.street("house says here=0;house says here=0;");
        muted.mute(0, true);
        Check.due("of those that aren't muted", muted.knot(), 2);
        muted.mute(1, true);
        Check.due("all are muted", muted.knot(), NONE);
    }

    private static void nobody() {
        Check.says("LIARS, as bits (0: nobody need be)");
        liars("", 0);
        liars("house says here=1;", 0);
        liars("most 2;" + "house says here=2;".repeat(8), 0);
        RiddleDoors doors = Check.street("house;");
        Check.due("nine numberings", doors.liars(), NONE);
        doors.letter(0, 9);
        Check.due("one by a letter", doors.liars(), 0);
    }

    private static void noLiars() {
        Check.says("none, if there is none");
        liars("house;", NONE);
        liars("house says 0;", NONE);
        liars("house says here<3;", NONE);
        liars("most 2;house says here=1;house;", NONE);
        RiddleDoors doors = Check.street("most 2;house says here=1;");
        doors.letter(0, 1);
        doors.letter(0, 2);
        Check.due("letters that don't agree", doors.liars(), NONE);
    }

    private static void smallestLiars() {
        Check.says("LIARS: the smallest set of HOUSES whose RIDDLES (not MUTED ones) left out leave just one NUMBERING");
        // 2 alone, or 0 and 1 together
        liars("most 2;house says here=1 and of 2=1;house says here=1;house says of 0=2 and of 1=2 and here=2;", 4);
        liars("most 2;house says here=1 and of 2=1;house says here=1;house says of 0=2 and of 1=2 and here=2;house says here=1;", 4);
        liars("most 3;house says here=1;house says here=1 and before=1;house says here=1 and before=2 and of 0=2;", 3);
        liars("most 3;house says here=1 and after=1 and of 2=1;house says 1;house says here=0;", 4);
        liars("most 2;" + "house says of 7=1;".repeat(7)
            + "house says here=2 and of 0=1 and of 1=1 and of 2=1 and of 3=1 and of 4=1 and of 5=1 and of 6=1;", 127);
        liars("most 2;house says 0;house says 0;house says 0;house says 0;", NONE);
    }

    private static void leastLiars() {
        Check.says("of as small the least as bits");
        liars("most 3;house says here=1;house says of 0=2;", NONE);
        // Each of the two left out leaves one.
        liars("most 3;house says here=1 and after=1;house says here=2 and before=2;", 1);
        liars("most 3;house;house says here=1 and before=1;house says of 0=1 and before=1 and here=1;house says of 0=2 and here=1;", NONE);
        liars("most 3;house says here=1 and after=1 and of 2=1;house says of 0=2 and here=2 and of 2=2;house says here<3;", 1);
        liars("most 3;house says 1;house says here=1 and before=1 and after=1;house says of 0=2 and of 1=2 and here=2;", 2);
    }

    private static void liarsSpentInOrder() {
        Check.says("Each is SPENT, as soon as some set that is asked is (sets by how many are in them, then as bits, the empty one first).");
        // All together: too late. Without the last one: just one.
        liars("most 20;house;house;house;house says here=1 and of 0=0;", SPENT);
        // Nobody, ahead of sets that would be spent
        liars("most 20;house says here=1;house says here=1;house says here=1;house says here=1;", 0);
        // Without 0 there is just one; without 1 it would be too late
        liars("most 20;house says here=2;house says of 0=1 and here=1;house says here=1;house says here=1;", 1);
        liars("most 20;house says here=1 and after=1;house says before=0;house says here=1;house says here=1;", 2);
        // Without 1 it is too late, which is asked ahead of 2, and of 0 and 1 together
        liars("most 20;house;house says here=0;house says here=1 and of 0=1 and " + TOO_LATE + ";house;", SPENT);
        liars("most 20;house says here=0;house says here=0;house says here and " + TOO_LATE + ";house;", SPENT);
        liars("most 20;house says here=0;house says here=0;house says here=0;house;", NONE);
    }

    private static void liarsByExactlyTwentyThousand() {
        Check.says("(Whether there is just one.)");
        String one = "house says of 0=1 and of 1=1 and of 2=1 and here=1;";
        liars("most 20;house says here<10;house says here<11;house says here<11;" + one, 0);
        liars("most 20;house says here<11;house says here<11;house says here<11;" + one, SPENT);
        // A second one by try 20000 ends the question; then the riddle is left out, and there are two at once.
        String two = "most 20;house;house;house;house says of 0=1 and of 1=1 and of 2=1 and here=1 or of 0=3 and of 1=8 and of 2=10 and here=";
        liars(two + "19;", NONE);
        liars(two + "20;", SPENT);
        liars("most 20;" + "house;".repeat(8), NONE);
    }

    private static void liarsWithout() {
        Check.says("RIDDLES (not MUTED ones) left out leave just one NUMBERING (with LETTERS)");
        RiddleDoors doors = Check.street("most 3;house says here=1;house says here=2 and before=2;");
        Check.due("the first", doors.liars(), 1);
        doors.letter(1, 1);
        Check.due("the second, by a letter", doors.liars(), 2);
        doors.mute(1, true);
        Check.due("it is muted", doors.liars(), 0);
        doors.mute(0, true);
        Check.due("both are muted", doors.liars(), NONE);
        doors.unletter();
        doors.letter(0, 2);
        doors.mute(1, false);
        Check.due("one is muted, the other isn't", doors.liars(), 0);
    }

    private static void noProof() {
        Check.says("A PROOF, as bits; NONE: none.");
        proof("house;", 0, NONE);
        proof("house says here<3;", 0, NONE);
        proof("most 2;house says 0;", 0, NONE);
        proof("most 2;house says here=1;house says 0;", 1, NONE);
        proof("most 2;house says here=1;house says here=2;house;", 2, NONE);
    }

    private static void smallestProof() {
        Check.says("the smallest set of RIDDLES (not MUTED ones) by which alone (with UNLIKE, without LETTERS) its NUMBER is SURE: "
            + "of as small the least as bits");
        proof("most 3;house says here=1;house says of 0=1;", 0, 1);
        proof("most 3;house says here<3;house says 1<of 0;house says of 0=2;", 0, 4);
        proof("most 3;house says here<3;house says 1<of 0;", 0, 3);
        // 0 or 1 with 2 or 3: 5, 9, 6, 10
        proof("most 3;house says here<3;house says of 0<3;house says 1<of 0;house says 1<of 0;", 0, 5);
        // 0 and 3, 1 and 2: 9 and 6, but not 5
        proof("most 3;house says here=1 or after=1;house says before=1 or of 2=1;house says 1<here;house says 1<of 1;", 0, 6);
        proof("most 3;house says here<3;house says before<2;house says here=1;house says of 0=of 2;", 0, 2);
        proof("most 2;" + "house says here=before;".repeat(7) + "house says here=1;", 7, 128);
        proof("most 2;" + "house says here=after;".repeat(7) + "house says here=1;", 0, 255);
        // Riddles that can't be together make nothing sure.
        proof("most 3;house says here=1;house says of 0=2 and of 2=2;house says 1;", 2, 2);
        proof("most 3;house says here=1;house says of 0=2;house;", 2, NONE);
    }

    private static void emptyProof() {
        Check.says("(sets as above)");
        RiddleDoors doors = Check.street("most 2;unlike;house;house;");
        Check.due("without riddles", doors.proof(0), NONE);
        doors.letter(0, 1);
        Check.due("a letter is no proof", doors.proof(0), NONE);
        proof("most 3;unlike;house says here=1;house says here=2;house;", 2, 3);
        proof("most 2;unlike;house says here=1;house;", 1, 1);
        proof("most 2;unlike;house;house;house;", 0, NONE);
        proof("most 7;unlike;" + "house;".repeat(8), 0, SPENT);
    }

    private static void proofFirstQuestion() {
        Check.says("So it is asked: whether there is a NUMBERING at all");
        String free = "most 20;house;house;house;house says of 0=4 and of 1=1 and of 2=1 and here=1 or of 0=3 and of 1=8 and of 2=10 and here=";
        proof(free + "19;", 0, NONE);
        proof(free + "20;", 0, SPENT);
    }

    private static void proofSecondQuestion() {
        Check.says("and, if there is, whether there is one in which this HOUSE has another NUMBER than in that first one");
        String free = "most 20;house;house;house;house says of 0=1 and of 1=1 and of 2=1 and here=1 or of 0=4 and of 1=8 and of 2=10 and here=";
        // The number 1 of house 0 is no try: 20000 tries, and 20001.
        proof(free + "19;", 0, NONE);
        proof(free + "20;", 0, SPENT);
        // If it is the last house that is asked of, its 1 is no try, once for each of the others' numbers: 20000, 20001.
        proof("most 20;house;house;house;house says here=1 or of 0=3 and of 1=10 and of 2=18 and here=7;", 3, NONE);
        proof("most 20;house;house;house;house says here=1 or of 0=3 and of 1=10 and of 2=18 and here=8;", 3, SPENT);
    }

    /**
     * House 1 has 1, or what the two others leave, which is nothing: 20 and 20 * 19 and 20 * 19 * 20 tries without its 1,
     * and 20 for each of 600 that the one leaves.
     */
    private static void proofOfExactlyTwentyThousand() {
        Check.says("SPENT: there would be more than 20000 TRIES.");
        String index = "(of 0-1)*380+(of 1-2)*20+of 2";
        String text = "most 20;house;house;house says of 1=1 or " + index + "<601;house says of 1=1 or here and 600<" + index + ";";
        proof(text, 1, 12);
        proof(text.replace("601", "602").replace("600", "601"), 1, SPENT);
    }

    private static void proofNoTry() {
        Check.says("(that NUMBER is no TRY of that HOUSE's then)");
        // 4 and 4 * 4 .. 4096 tries of six houses, and 3 of the last one for each of these: 17748; with 4 of it 21844
        proof("most 4;" + "house;".repeat(6) + "house says here=1;", 6, 64);
        // 3905 tries of five houses, and 4 of the last one for each of 3125: 16405
        proof("most 5;" + "house;".repeat(5) + "house says here=5;", 5, 32);
        proof("most 20;house;house;house;house says here=1;", 3, SPENT);
    }

    private static void proofSpentInOrder() {
        Check.says("SPENT, as soon as one of these is (sets as above).");
        String four = "most 20;house says %s;house says %s;house says %s;house says %s;";
        // A set that is found ahead of one that would be spent
        proof(String.format(four, "here=1", TOO_LATE, "1", "1"), 0, 1);
        proof(String.format(four, TOO_LATE, "of 0=1", "1", "1"), 0, SPENT);
        proof(String.format(four, "1", "of 0=1", TOO_LATE, "1"), 0, 2);
        proof(String.format(four, "here<3", "1<of 0", TOO_LATE, "1"), 0, SPENT);
        proof(String.format(four, "here<3", "1<of 0", "of 3=1", "of 3=2"), 0, 3);
        proof(String.format(four, "of 3=1", "of 3=2", "of 0<3", "1<of 0"), 0, SPENT);
    }

    private static void proofWithout() {
        Check.says("(not MUTED ones) by which alone (with UNLIKE, without LETTERS)");
        RiddleDoors doors = Check.street("most 3;house says here<3;house says 1<of 0;house says of 0=2;");
        doors.letter(0, 1);
        Check.due("a letter is left out", doors.proof(0), 4);
        doors.mute(2, true);
        Check.due("a muted one is left out", doors.proof(0), 3);
        doors.mute(1, true);
        Check.due("another one", doors.proof(0), NONE);
    }

    private static void wrongHouses() {
        Check.says("no such HOUSE (as everywhere)");
        RiddleDoors doors = Check.street("most 3;house says here=3;house;");
        for (int house : new int[] {-1, 2, 8, Integer.MIN_VALUE, Integer.MAX_VALUE}) {
            Check.throwsDue("proof(" + house + ")", Check.NSE, () -> doors.proof(house));
        }
        Check.throwsDue("of no houses", Check.NSE, () -> new RiddleDoors().proof(0));
        Check.due("the first", doors.proof(0), 1);
        Check.due("the last", doors.proof(1), NONE);
    }
}
