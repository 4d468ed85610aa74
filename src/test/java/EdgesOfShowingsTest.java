/** The edges that the document names of shown, other, which, again, cheated, judge (promises 9 to 14), sentence by sentence. */
public final class EdgesOfShowingsTest {
    private static final long NONE = Long.MIN_VALUE;
    private static final int BAD = OtherSide.BAD, NOT = OtherSide.NOT;
    private static final int LEAST = Integer.MIN_VALUE, MOST = Integer.MAX_VALUE;

    public static void main(String[] args) {
        eachAsLikely();
        partsOfTheLine();
        refusedShowings();
        lowestTerms();
        noughtByOne();
        whatCannotBe();
        shownOfAColour();
        shownOfNone();
        otherSide();
        otherByTen();
        otherOfNone();
        oneToFourTimes();
        eachTimeAnew();
        whichByTen();
        whichOfNone();
        onceMore();
        againByTen();
        againOfNone();
        threeColoursAtMost();
        eachTimePutBack();
        ofAllCards();
        leastNumberOfLikeOnes();
        moreLikelyThanTheHatAsItIs();
        cheatedRefusals();
        cheatedNamedFirst();
        cheatedNone();
        judgedByPlace();
        judgedOfAnyLength();
        judgedCannotBeShown();
        judgedNoColour();
        judgedRefusals();
        judgedNone();
        Check.end("EdgesOfShowingsTest");
    }

    private static void due(String call, long got, long want) {
        Check.due(call, got, want);
    }

    private static void shown(OtherSide x, int c, long above, long below) {
        Check.chance("shown(" + c + ")", x.shown(c, 0), x.shown(c, 1), above, below);
    }

    private static void other(OtherSide x, int cd, long above, long below) {
        Check.chance("other(" + cd + ")", x.other(cd, 0), x.other(cd, 1), above, below);
    }

    private static void which(OtherSide x, int n, int ck, long above, long below) {
        Check.chance("which(" + n + ", " + ck + ")", x.which(n, ck, 0), x.which(n, ck, 1), above, below);
    }

    private static void again(OtherSide x, int ck, long above, long below) {
        Check.chance("again(" + ck + ")", x.again(ck, 0), x.again(ck, 1), above, below);
    }

    // ---- chances

    private static void eachAsLikely() {
        Check.says(0, "One is drawn (each as likely), one of its SIDES is SHOWN.");
        OtherSide x = Check.hat(9, 111, 220);
        shown(x, 0, 9, 10);
        shown(x, 1, 1, 10);
        shown(x, 2, 0, 1);
        x.mend(2, 0, 9);
        shown(x, 2, 9, 19);
        shown(Check.hat(11), 1, 1, 2);
    }

    private static void partsOfTheLine() {
        Check.says(0, "(part 0 above, 1 below the line)");
        OtherSide x = Check.hat(1, 112);
        due("above", x.shown(1, 0), 2);
        due("below", x.shown(1, 1), 3);
        due("above", x.other(11, 0), 1);
        due("below", x.other(11, 1), 1);
        due("above", x.handed(1, 1, 0), 2);
        due("below", x.handed(1, 1, 1), 3);
        due("above", x.ill(0, 0), 1);
        due("below", x.ill(0, 1), 10);
    }

    private static void refusedShowings() {
        Check.says(0, "---- showings (Long.MIN_VALUE: BAD).");
        OtherSide x = Check.hat(1);
        int[] parts = {LEAST, -1, 2, MOST};
        for (int part : parts) {
            due("shown part " + part, x.shown(0, part), NONE);
            due("other part " + part, x.other(0, part), NONE);
            due("which part " + part, x.which(0, 1, part), NONE);
            due("again part " + part, x.again(1, part), NONE);
        }
        due("no shelf to cheat by", x.cheated(6), BAD);
        due("no shelf to judge", x.judge(6), BAD);
    }

    private static void lowestTerms() {
        Check.says(0, "Chances are fractions in lowest terms (0 by 1;");
        OtherSide x = Check.hat(6, 113);
        shown(x, 0, 2, 3);
        shown(x, 1, 1, 3);
        x.mend(0, 0, 3);
        shown(x, 0, 1, 2);
        x.mend(1, 0, 0);
        shown(x, 0, 1, 1);
        again(x, 4, 1, 1);
        Check.law(x, "s?1;2");
        x.mend(0, 2, 1);
        shown(x, 0, 2, 3);
        again(x, 4, 2, 3);
    }

    private static void noughtByOne() {
        Check.says(0, "Chances are fractions in lowest terms (0 by 1;");
        OtherSide x = Check.hat(9, 119, 220);
        shown(x, 5, 0, 1);
        other(x, 1, 0, 1);
        which(x, 1, 1, 0, 1);
        which(x, 2, 1, 0, 1);
        Check.law(x, "s=0");
        shown(x, 0, 1, 2);
        x.mend(0, 1, 1);
        again(x, 4, 0, 1);
    }

    private static void whatCannotBe() {
        Check.says(0, "0 by 1, too, if what is known cannot be).");
        OtherSide x = Check.hat(9, 110);
        int[] cannot = {1, 2, 5};
        for (int c : cannot) {
            other(x, 10 * c + c, 0, 1);
            which(x, 0, 10 * c + 1, 0, 1);
            which(x, 1, 10 * c + 4, 0, 1);
            again(x, 10 * c + 4, 0, 1);
        }
        x.mend(0, 0, 0);
        shown(x, 0, 0, 1);
        other(x, 0, 0, 1);
        which(x, 0, 1, 0, 1);
        again(x, 1, 0, 1);
    }

    // ---- promises 9 and 10

    private static void shownOfAColour() {
        Check.says(0, "SHOWN: how likely colour c is SHOWN.");
        OtherSide x = Check.hat(59, 501, 551, 330);
        shown(x, 0, 5, 11);
        shown(x, 5, 6, 11);
        shown(x, 3, 0, 1);
        OtherSide full = Check.hat(9, 9, 9, 9, 9, 9, 9, 119);
        shown(full, 0, 7, 8);
        shown(full, 1, 1, 8);
    }

    private static void shownOfNone() {
        Check.says(9, "SHOWN.");
        OtherSide x = Check.hat(1);
        int[] none = {LEAST, -1, 6, 7, 255, MOST};
        for (int c : none) {
            due("shown(" + c + ", 0)", x.shown(c, 0), NONE);
            due("shown(" + c + ", 1)", x.shown(c, 1), NONE);
        }
        shown(x, 0, 1, 1);
        shown(x, 5, 0, 1);
    }

    private static void otherSide() {
        Check.says(0, "OTHER: how likely the other SIDE is of colour d, c being SHOWN.");
        OtherSide x = Check.hat(1, 12, 553);
        other(x, 0, 1, 2);
        other(x, 1, 1, 2);
        other(x, 10, 1, 1);
        other(x, 11, 0, 1);
        other(x, 55, 1, 1);
        other(x, 5, 0, 1);
        other(x, 50, 0, 1);
        Check.law(x, "s");
        other(x, 0, 1, 1);
        other(x, 1, 0, 1);
        OtherSide full = Check.hat(9, 9, 9, 9, 9, 9, 9, 19);
        other(full, 0, 14, 15);
        other(full, 1, 1, 15);
        other(full, 10, 1, 1);
    }

    private static void otherByTen() {
        Check.says(10, "OTHER (cd: 10 c and d).");
        OtherSide x = Check.hat(121, 51);
        other(x, 12, 1, 1);
        other(x, 21, 1, 1);
        other(x, 5, 1, 1);
        other(x, 50, 1, 1);
        other(x, 55, 0, 1);
        other(x, 0, 0, 1);
    }

    private static void otherOfNone() {
        Check.says(10, "OTHER (cd: 10 c and d).");
        OtherSide x = Check.hat(1);
        int[] none = {LEAST, -11, -10, -1, 6, 9, 16, 19, 56, 59, 60, 65, 66, 100, MOST};
        for (int cd : none) {
            due("other(" + cd + ", 0)", x.other(cd, 0), NONE);
            due("other(" + cd + ", 1)", x.other(cd, 1), NONE);
        }
        other(x, 0, 1, 1);
        other(x, 55, 0, 1);
    }

    // ---- promises 11 and 12

    private static void oneToFourTimes() {
        Check.says(0, "CARD: how likely it is CARD n, if of one card drawn colour c is SHOWN each of k times "
            + "(1 .. 4; each time anew by WEIGHTS).");
        OtherSide x = Check.hat(1, 11);
        for (int k = 1; k <= 4; k++) {
            which(x, 0, k, 1 << k, (1 << k) + 1);
            which(x, 1, k, 1, (1 << k) + 1);
            which(x, 1, 10 + k, 1, 1);
            which(x, 0, 10 + k, 0, 1);
        }
        due("0 times", x.which(0, 0, 0), NONE);
        due("5 times", x.which(0, 5, 0), NONE);
        due("0 times of 1", x.which(0, 10, 0), NONE);
        due("5 times of 1", x.which(0, 15, 0), NONE);
        x.mend(1, 0, 9);
        which(x, 0, 4, 16, 25);
    }

    private static void eachTimeAnew() {
        Check.says(0, "(1 .. 4; each time anew by WEIGHTS).");
        OtherSide x = Check.hat(1, 11);
        Check.law(x, "s?3;1");
        which(x, 0, 1, 4, 5);
        which(x, 0, 2, 16, 17);
        which(x, 0, 4, 256, 257);
        which(x, 1, 14, 1, 1);
        Check.law(x, "s");
        which(x, 0, 1, 1, 1);
        which(x, 1, 4, 0, 1);
    }

    private static void whichByTen() {
        Check.says(11, "CARD n (ck: 10 c and k).");
        OtherSide x = Check.hat(551, 51, 1, 1, 1, 1, 1, 1);
        which(x, 0, 54, 16, 17);
        which(x, 1, 51, 1, 3);
        which(x, 7, 51, 0, 1);
        which(x, 7, 1, 2, 13);
    }

    private static void whichOfNone() {
        Check.says(11, "CARD n (ck: 10 c and k).");
        OtherSide x = Check.hat(1);
        int[] none = {LEAST, -1, 1, 7, 8, MOST};
        for (int n : none) {
            due("which(" + n + ", 1, 0)", x.which(n, 1, 0), NONE);
        }
        timesThatAreNone(x, true);
        due("no card at all", new OtherSide().which(0, 1, 0), NONE);
        which(x, 0, 1, 1, 1);
    }

    private static void timesThatAreNone(OtherSide x, boolean which) {
        int[] none = {LEAST, -11, -1, 0, 5, 9, 10, 15, 20, 50, 55, 59, 60, 61, 64, 101, MOST};
        for (int ck : none) {
            for (int part = 0; part < 2; part++) {
                due("of " + ck, which ? x.which(0, ck, part) : x.again(ck, part), NONE);
            }
        }
    }

    private static void onceMore() {
        Check.says(0, "AGAIN: how likely c is SHOWN once more then.");
        OtherSide x = Check.hat(1, 11);
        again(x, 1, 5, 6);
        again(x, 2, 9, 10);
        again(x, 3, 17, 18);
        again(x, 4, 33, 34);
        again(x, 11, 1, 2);
        again(x, 14, 1, 2);
        x.mend(1, 0, 0);
        again(x, 1, 1, 1);
        again(x, 11, 0, 1);
    }

    private static void againByTen() {
        Check.says(12, "AGAIN (ck: 10 c and k).");
        OtherSide x = Check.hat(551, 51);
        again(x, 51, 5, 6);
        again(x, 54, 33, 34);
        again(x, 1, 1, 2);
        again(x, 4, 1, 2);
        again(x, 41, 0, 1);
    }

    private static void againOfNone() {
        Check.says(12, "AGAIN (ck: 10 c and k).");
        OtherSide x = Check.hat(1);
        timesThatAreNone(x, false);
        again(x, 4, 1, 1);
        again(x, 54, 0, 1);
    }

    // ---- promise 13

    private static int cheated(OtherSide x, int... colours) {
        Check.bytes(x, 5, colours);
        return x.cheated(5);
    }

    private static void threeColoursAtMost() {
        Check.says(0, "CHEATED: colours SHOWN, 3 at most (a ROW of bytes on a SHELF;");
        OtherSide x = Check.hat(1, 111);
        due("none", cheated(x), NOT);
        due("one", cheated(x, 1), 1);
        due("two", cheated(x, 1, 1), 1);
        due("three", cheated(x, 1, 0, 1), 1);
        due("three of another", cheated(x, 0, 0, 1), 0);
        due("four", cheated(x, 1, 1, 1, 1), BAD);
        due("sixty", cheated(x, new int[60]), BAD);
    }

    private static void eachTimePutBack() {
        Check.says(0, "each time one is drawn, SHOWN, put back):");
        OtherSide x = Check.hat(1, 113);
        due("not put back, one more would make it less likely", cheated(x, 0, 1, 1), 0);
        due("one of it is shown twice", cheated(x, 0, 0), 0);
        due("of like chances", cheated(Check.hat(1, 111), 0, 1), NOT);
    }

    private static void ofAllCards() {
        Check.says(0, "of all CARDS that of which one more in THE HAT makes these most likely");
        due("of the last", cheated(Check.hat(111, 111, 111, 111, 111, 111, 111, 1), 0), 7);
        due("none of it as yet", cheated(Check.hat(1, 110), 1), 1);
        due("nine of it", cheated(Check.hat(9, 119), 1), 1);
        due("an empty hat", cheated(Check.hat(0, 110), 1, 1, 1), 1);
        due("both sides of it", cheated(Check.hat(11, 1, 111), 0), 1);
        due("one side of it", cheated(Check.hat(222, 11, 330), 0), 1);
        due("the law looks at the one more", cheated(lawOfTwo(), 1), 0);
        due("and at one more of another as at first", cheated(lawOfTwo(), 1, 2, 2), 0);
    }

    // One more of the first makes two of it, whose second side is shown.
    private static OtherSide lawOfTwo() {
        OtherSide x = Check.hat(11, 221);
        Check.law(x, "m=2&n=0?s;!s");
        return x;
    }

    private static void leastNumberOfLikeOnes() {
        Check.says(0, "(of like ones the least number),");
        due("two", cheated(Check.hat(1, 111, 111), 1), 1);
        due("of unlike MANY", cheated(Check.hat(221, 19, 100), 1), 1);
        due("turned about", cheated(Check.hat(2, 101, 11), 1), 1);
        due("the better one comes later", cheated(Check.hat(2, 11, 111), 1), 2);
        due("the better one comes first", cheated(Check.hat(2, 111, 11), 1), 1);
        due("eight", cheated(Check.hat(0, 0, 0, 0, 0, 0, 0, 0), 0), 0);
    }

    private static void moreLikelyThanTheHatAsItIs() {
        Check.says(0, "if more likely than THE HAT as it is; NOT: none does.");
        due("as likely", cheated(Check.hat(1), 0), NOT);
        due("as likely, three", cheated(Check.hat(1), 0, 0, 0), NOT);
        due("half and half", cheated(Check.hat(11), 0), NOT);
        due("less likely", cheated(Check.hat(1, 111), 0, 1), NOT);
        due("of no card", cheated(Check.hat(1, 111), 2), NOT);
        due("one of no card", cheated(Check.hat(1, 111), 0, 2, 1), NOT);
        due("a little more likely", cheated(Check.hat(9, 119, 229, 339, 449, 559), 4), 4);
        due("no cards", cheated(Check.hat(), 0), NOT);
    }

    private static void cheatedRefusals() {
        Check.says(13, "CHEATED. BAD (also: more than 3 colours, or one that is none), -11, -12 (no ROW of bytes); NOT.");
        OtherSide x = Check.hat(1, 110);
        int[] shelves = {LEAST, -1, 6, MOST};
        for (int shelf : shelves) {
            due("shelf " + shelf, x.cheated(shelf), BAD);
        }
        due("nothing", x.cheated(0), -11);
        x.body(0);
        x.keep(0, 0);
        due("a body", x.cheated(0), -12);
        for (int sort = 1; sort < 5; sort++) {
            x.row(0, sort, 1);
            due("sort " + sort, x.cheated(0), -12);
        }
        int[] none = {-128, -1, 6, 127};
        for (int colour : none) {
            due("a colour " + colour, cheated(x, colour), BAD);
            due("a third colour " + colour, cheated(x, 1, 1, colour), BAD);
        }
        due("colour 5", cheated(x, 5), NOT);
        due("colour 1", cheated(x, 1), 1);
        due("four", cheated(x, 1, 1, 1, 1), BAD);
        due("nothing came in", x.of(0, 15), 1);
        due("no change", x.count(3), 0);
    }

    private static void cheatedNamedFirst() {
        Check.says(13, "BAD (also: more than 3 colours, or one that is none), -11, -12 (no ROW of bytes); NOT.");
        OtherSide x = Check.hat(1, 110);
        due("four that none makes likely", cheated(x, 0, 0, 0, 0), BAD);
        due("four with one that is none", cheated(x, 0, 0, 0, 9), BAD);
        due("one that is none behind one that cannot be", cheated(x, 5, 6), BAD);
    }

    private static void cheatedNone() {
        Check.says(13, "NOT.");
        due("an empty hat, no card", cheated(Check.hat(), 0, 1), NOT);
        due("no colour shown, no card", cheated(Check.hat()), NOT);
        due("no colour shown", cheated(Check.hat(1, 112)), NOT);
        due("no colour shown, an empty hat", cheated(Check.hat(0)), NOT);
        OtherSide x = Check.hat(11);
        Check.law(x, "s");
        due("a side that is never shown", cheated(x, 0), NOT);
        due("a side that always is", cheated(x, 1), NOT);
    }

    // ---- promise 14

    private static int judged(OtherSide x, int... colours) {
        Check.bytes(x, 0, colours);
        return x.judge(0);
    }

    private static void judgedByPlace() {
        Check.says(0, "JUDGED: the place (from 0) of the first colour of such a ROW (of any length) "
            + "that can't be SHOWN at all; NOT.");
        OtherSide x = Check.hat(11);
        due("the first", judged(x, 2, 0, 1), 0);
        due("the second", judged(x, 0, 2, 2), 1);
        due("the last", judged(x, 0, 1, 0, 5), 3);
        due("none", judged(x, 0, 1, 0), NOT);
    }

    private static void judgedOfAnyLength() {
        Check.says(0, "(of any length)");
        OtherSide x = Check.hat(1);
        due("of none", judged(x), NOT);
        int[] sixty = new int[60];
        due("of sixty", judged(x, sixty), NOT);
        sixty[59] = 1;
        due("the last of sixty", judged(x, sixty), 59);
        due("of four", judged(x, 0, 0, 0, 1), 3);
    }

    private static void judgedCannotBeShown() {
        Check.says(0, "that can't be SHOWN at all;");
        OtherSide x = Check.hat(11, 220);
        due("none of it in the hat", judged(x, 0, 1, 2), 2);
        x.mend(1, 0, 1);
        due("one of it in the hat", judged(x, 0, 1, 2), NOT);
        Check.law(x, "s");
        due("a side of weight 0", judged(x, 1, 0, 2), 1);
        Check.law(x, "0");
        due("both of weight 0", judged(x, 1, 0, 2), NOT);
        x.mend(0, 0, 0);
        x.mend(1, 0, 0);
        due("an empty hat", judged(x, 1, 0, 2), 0);
        due("no card", judged(Check.hat(), 0), 0);
    }

    private static void judgedNoColour() {
        Check.says(14, "JUDGED (a byte that is no colour can't be SHOWN).");
        OtherSide x = Check.hat(51);
        int[] none = {-128, -1, 6, 127};
        for (int colour : none) {
            due("byte " + colour, judged(x, 0, 5, colour), 2);
        }
        due("256 is a byte 0", judged(x, 256), NOT);
        due("255 is a byte -1", judged(x, 255), 0);
    }

    private static void judgedRefusals() {
        Check.says(14, "BAD, -11, -12; NOT.");
        OtherSide x = Check.hat(1);
        int[] shelves = {LEAST, -1, 6, MOST};
        for (int shelf : shelves) {
            due("shelf " + shelf, x.judge(shelf), BAD);
        }
        due("nothing", x.judge(0), -11);
        x.body(0);
        x.keep(0, 0);
        due("a body", x.judge(0), -12);
        for (int sort = 1; sort < 5; sort++) {
            x.row(0, sort, 60);
            due("sort " + sort, x.judge(0), -12);
        }
        x.row(5, 0, 1);
        due("the last shelf", x.judge(5), NOT);
    }

    private static void judgedNone() {
        Check.says(14, "NOT.");
        due("no card, no colour", judged(Check.hat()), NOT);
        due("all can be", judged(Check.hat(51), 0, 5, 0, 5), NOT);
    }
}
