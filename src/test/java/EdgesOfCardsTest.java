/** The edges that the document names of a new object, card, cards, mend, of (promises 1 to 5), sentence by sentence. */
public final class EdgesOfCardsTest {
    private static final int BAD = OtherSide.BAD, NOT = OtherSide.NOT, FULL = OtherSide.FULL;
    private static final int LEAST = Integer.MIN_VALUE, MOST = Integer.MAX_VALUE;

    public static void main(String[] args) {
        anEmptyHat();
        numbersAsTheyCome();
        coloursOfSides();
        manyZeroToNine();
        sidesAndManyOfACard();
        noCard();
        aNinthCard();
        oneToEightFromARow();
        noneFromBelowZero();
        noRowToTakeFrom();
        aMissingRow();
        theRowEnds();
        theRowEndsWithinAThree();
        oneIsNotAsItMayBe();
        cardsAreFull();
        mendsACard();
        mendsAnUrn();
        mendsATest();
        mendsAWitness();
        mendsIllAndBefore();
        mendsAQuote();
        mendsNone();
        urnsAtFirst();
        testsAtFirst();
        illAtFirst();
        witnessesAtFirst();
        beforeAtFirst();
        quotesAtFirst();
        ofAsOfMend();
        ofLaidAside();
        ofShownInDeed();
        ofTheLatest();
        ofAllInTheHat();
        ofNone();
        Check.end("EdgesOfCardsTest");
    }

    private static void due(String call, long got, long want) {
        Check.due(call, got, want);
    }

    // ---- promise 1

    private static void anEmptyHat() {
        Check.says(1, "An empty hat.");
        OtherSide x = new OtherSide();
        due("count(0)", x.count(0), 0);
        due("of(0, 15)", x.of(0, 15), 0);
        due("of(0, 0)", x.of(0, 0), BAD);
        due("draw(0)", x.draw(0), OtherSide.STATE);
        for (int c = 0; c < 6; c++) {
            Check.chance("shown(" + c + ")", x.shown(c, 0), x.shown(c, 1), 0, 1);
        }
        due("count(1)", x.count(1), 0);
        due("count(2)", x.count(2), 0);
        due("count(3)", x.count(3), 0);
        due("count(4)", x.count(4), 0);
        due("count(5)", x.count(5), 0);
    }

    // ---- promise 2

    private static void numbersAsTheyCome() {
        Check.says(0, "CARDS 0 .. 7, as they come:");
        OtherSide x = new OtherSide();
        for (int i = 0; i < 8; i++) {
            due("no card " + i + " yet", x.of(i, 0), BAD);
            due("card", x.card(i), i);
            due("MANY of card " + i, x.of(i, 0), i);
            due("cards", x.count(0), i + 1);
        }
        due("no card 8", x.of(8, 0), BAD);
    }

    private static void coloursOfSides() {
        Check.says(0, "two SIDES (colours 0 .. 5 each)");
        OtherSide x = new OtherSide();
        due("sides 0 and 0", x.card(0), 0);
        due("sides 5 and 5", x.card(550), 1);
        due("a first side 6", x.card(600), BAD);
        due("a second side 6", x.card(60), BAD);
        due("a second side 9", x.card(590), BAD);
        for (int side = 1; side <= 2; side++) {
            due("mend to 5", x.mend(0, side, 5), 0);
            due("mend to 6", x.mend(0, side, 6), BAD);
            due("mend to -1", x.mend(0, side, -1), BAD);
            due("is 5", x.of(0, side), 5);
            due("mend to 0", x.mend(1, side, 0), 5);
        }
    }

    private static void manyZeroToNine() {
        Check.says(0, "MANY (0 .. 9: how many of it are in THE HAT).");
        OtherSide x = new OtherSide();
        due("none of it", x.card(0), 0);
        due("in the hat", x.of(0, 15), 0);
        due("nine of it", x.card(119), 1);
        due("in the hat", x.of(0, 15), 9);
        due("mend to 9", x.mend(0, 0, 9), 0);
        due("mend to 10", x.mend(0, 0, 10), BAD);
        due("mend to -1", x.mend(0, 0, -1), BAD);
        due("in the hat", x.of(0, 15), 18);
        due("mend to 0", x.mend(1, 0, 0), 9);
        due("in the hat", x.of(0, 15), 9);
        due("shown no more", x.shown(1, 0), 0);
        x.draw(0);
        due("one less", x.of(0, 0), 8);
        due("in the hat", x.of(0, 15), 8);
    }

    private static void sidesAndManyOfACard() {
        Check.says(2, "A CARD (abm: 100 and 10 times the SIDES, and MANY): its number.");
        OtherSide x = new OtherSide();
        int[] abm = {0, 9, 50, 59, 500, 509, 550, 559};
        for (int i = 0; i < 8; i++) {
            due("card(" + abm[i] + ")", x.card(abm[i]), i);
            due("MANY", x.of(i, 0), abm[i] % 10);
            due("the first side", x.of(i, 1), abm[i] / 100);
            due("the second side", x.of(i, 2), abm[i] / 10 % 10);
        }
    }

    private static void noCard() {
        Check.says(2, "BAD, FULL: 8.");
        OtherSide x = new OtherSide();
        int[] none = {LEAST, -560, -100, -10, -1, 60, 69, 70, 99, 160, 199, 560, 599, 600, 609, 999, 1000, 10000, MOST};
        for (int abm : none) {
            due("card(" + abm + ")", x.card(abm), BAD);
        }
        due("none came", x.count(0), 0);
        due("the first is 0 still", x.card(559), 0);
        for (int abm = -20; abm < 1100; abm++) {
            boolean may = abm >= 0 && abm / 100 < 6 && abm / 10 % 10 < 6;
            due("card(" + abm + ")", new OtherSide().card(abm), may ? 0 : BAD);
        }
    }

    private static void aNinthCard() {
        Check.says(2, "BAD, FULL: 8.");
        OtherSide x = eight();
        due("a ninth", x.card(0), FULL);
        due("a ninth that is none", x.card(60), BAD);
        due("a ninth below 0", x.card(-1), BAD);
        due("cards", x.count(0), 8);
        due("in the hat", x.of(0, 15), 8);
        due("no card 8", x.of(8, 0), BAD);
        due("the last is as it was", x.of(7, 1), 1);
    }

    private static OtherSide eight() {
        OtherSide x = new OtherSide();
        for (int i = 0; i < 8; i++) {
            x.card(i % 6 * 100 + 1);
        }
        return x;
    }

    // ---- promise 3

    private static void oneToEightFromARow() {
        Check.says(3, "CARDS FROM A ROW on a SHELF, from place i on, n (1 .. 8) of them:");
        OtherSide x = new OtherSide();
        x.row(5, 0, 60);
        x.put(5, 59, 7);
        due("none of them", x.cards(5, 0, 0), BAD);
        due("-1 of them", x.cards(5, 0, -1), BAD);
        due("the least of them", x.cards(5, 0, LEAST), BAD);
        due("nine of them", x.cards(5, 0, 9), BAD);
        due("the most of them", x.cards(5, 0, MOST), BAD);
        due("none came", x.count(0), 0);
        due("one from the last three on", x.cards(5, 57, 1), 1);
        due("MANY by the last place", x.of(0, 0), 7);
        OtherSide y = new OtherSide();
        y.row(0, 0, 24);
        due("eight", y.cards(0, 0, 8), 8);
        due("cards", y.count(0), 8);
    }

    private static void noneFromBelowZero() {
        Check.says(3, "how many came (0 with i below 0).");
        OtherSide x = new OtherSide();
        x.row(0, 0, 9);
        due("from -1 on", x.cards(0, -1, 3), 0);
        due("from -3 on", x.cards(0, -3, 3), 0);
        due("from the least on", x.cards(0, LEAST, 8), 0);
        due("none came", x.count(0), 0);
        due("from 0 on", x.cards(0, 0, 3), 3);
    }

    private static void noRowToTakeFrom() {
        Check.says(3, "BAD, -12 (no ROW of bytes; a SHELF that holds nothing is missing).");
        OtherSide x = new OtherSide();
        int[] shelves = {LEAST, -1, 6, MOST};
        for (int shelf : shelves) {
            due("shelf " + shelf, x.cards(shelf, 0, 1), BAD);
        }
        for (int sort = 1; sort < 5; sort++) {
            x.row(0, sort, 3);
            due("of sort " + sort, x.cards(0, 0, 1), -12);
            due("of sort " + sort + ", none of them", x.cards(0, 0, 0), BAD);
        }
        x.body(0);
        x.keep(0, 0);
        due("a body", x.cards(0, 0, 1), -12);
        x.keep(0, -1);
        due("nothing", x.cards(0, 0, 1), 0);
        due("none came", x.count(0), 0);
    }

    private static void aMissingRow() {
        Check.says(0, "CARDS FROM A ROW of bytes, from place i on: by threes SIDES, MANY: n of them; "
            + "it ends where the row is missing,");
        OtherSide x = new OtherSide();
        due("a shelf that holds nothing", x.cards(5, 0, 8), 0);
        due("none came", x.count(0), 0);
        Check.bytes(x, 5, 1, 2, 3, 4, 5, 6);
        due("one of two", x.cards(5, 0, 1), 1);
        due("the first side", x.of(0, 1), 1);
        due("the second side", x.of(0, 2), 2);
        due("MANY", x.of(0, 0), 3);
        due("by any place", x.cards(5, 1, 1), 1);
        due("the first side", x.of(1, 1), 2);
        x.keep(5, -1);
        due("a shelf that holds nothing any more", x.cards(5, 0, 8), 0);
        due("cards", x.count(0), 2);
    }

    private static void theRowEnds() {
        Check.says(0, "ends (within a three, too),");
        OtherSide x = new OtherSide();
        x.row(0, 0, 0);
        due("a row of none", x.cards(0, 0, 1), 0);
        x.row(0, 0, 3);
        due("eight of one", x.cards(0, 0, 8), 1);
        due("at the end", x.cards(0, 3, 1), 0);
        due("behind the end", x.cards(0, 4, 1), 0);
        due("at the most", x.cards(0, MOST, 8), 0);
        due("near the most", x.cards(0, MOST - 2, 8), 0);
        due("cards", x.count(0), 1);
    }

    private static void theRowEndsWithinAThree() {
        Check.says(0, "ends (within a three, too),");
        for (int length = 0; length <= 8; length++) {
            OtherSide x = new OtherSide();
            x.row(0, 0, length);
            due("of " + length, x.cards(0, 0, 8), length / 3);
            due("cards", x.count(0), length / 3);
        }
        OtherSide y = new OtherSide();
        y.row(0, 0, 3);
        due("two are left", y.cards(0, 1, 1), 0);
        due("one is left", y.cards(0, 2, 1), 0);
        due("none came", y.count(0), 0);
    }

    private static void oneIsNotAsItMayBe() {
        Check.says(0, "one is not as it may be,");
        int[][] wrong = {{6, 0, 0}, {-1, 0, 0}, {0, 6, 0}, {0, -1, 0}, {0, 0, 10}, {0, 0, -1}, {127, 0, 0}, {0, 0, -128}};
        for (int[] w : wrong) {
            OtherSide x = new OtherSide();
            Check.bytes(x, 0, 5, 5, 9, w[0], w[1], w[2], 0, 0, 0);
            due("the first came", x.cards(0, 0, 3), 1);
            due("cards", x.count(0), 1);
            due("none from the second on", x.cards(0, 3, 3), 0);
            due("the third may be", x.cards(0, 6, 3), 1);
        }
    }

    private static void cardsAreFull() {
        Check.says(0, "or CARDS are FULL: those ahead came.");
        OtherSide x = new OtherSide();
        for (int i = 0; i < 6; i++) {
            x.card(0);
        }
        Check.bytes(x, 0, 1, 1, 1, 2, 2, 2, 3, 3, 3);
        due("two of three", x.cards(0, 0, 3), 2);
        due("the last", x.of(7, 1), 2);
        due("cards", x.count(0), 8);
        due("none any more", x.cards(0, 6, 1), 0);
        due("in the hat", x.of(0, 15), 3);
    }

    // ---- promise 4

    private static void ranges(OtherSide x, int what, int numbers, int most, int atFirst) {
        for (int number = 0; number < numbers; number++) {
            String of = " what " + what + " of " + number;
            due("at first" + of, x.of(number, what), atFirst);
            due("below 0" + of, x.mend(number, what, -1), BAD);
            due("far below 0" + of, x.mend(number, what, LEAST), BAD);
            due("above" + of, x.mend(number, what, most + 1), BAD);
            due("far above" + of, x.mend(number, what, MOST), BAD);
            due("what it was" + of, x.mend(number, what, most), atFirst);
            due("the most" + of, x.of(number, what), most);
            due("to 0" + of, x.mend(number, what, 0), most);
            due("0" + of, x.of(number, what), 0);
        }
        int[] none = {LEAST, -1, numbers, MOST};
        for (int number : none) {
            due("mend what " + what + " of " + number, x.mend(number, what, 0), BAD);
            due("of what " + what + " of " + number, x.of(number, what), BAD);
        }
    }

    private static void mendsACard() {
        Check.says(4, "MANY (what 0), SIDES (1, 2) of a CARD;");
        OtherSide x = new OtherSide();
        due("no card yet", x.mend(0, 0, 1), BAD);
        x.card(234);
        x.card(234);
        ranges(x, 0, 2, 9, 4);
        ranges(x, 1, 2, 5, 2);
        ranges(x, 2, 2, 5, 3);
        OtherSide y = eight();
        due("of the last", y.mend(7, 0, 2), 1);
        due("of an eighth", y.mend(8, 0, 2), BAD);
    }

    private static void mendsAnUrn() {
        Check.says(4, "RED (3), WHITE (4) of an URN;");
        OtherSide x = new OtherSide();
        ranges(x, 3, 4, 9, 1);
        ranges(x, 4, 4, 9, 1);
    }

    private static void mendsATest() {
        Check.says(4, "RIGHT for the ILL (5), the WELL (6), PRICE (7) of a TEST;");
        OtherSide x = new OtherSide();
        ranges(x, 5, 4, 12, 9);
        ranges(x, 6, 4, 12, 9);
        ranges(x, 7, 4, 99, 10);
    }

    private static void mendsAWitness() {
        Check.says(4, "LIES (8) of a WITNESS;");
        ranges(new OtherSide(), 8, 6, 12, 3);
    }

    private static void mendsIllAndBefore() {
        Check.says(4, "ILL (9), BEFORE (10; number 0);");
        ranges(new OtherSide(), 9, 1, 99, 10);
        ranges(new OtherSide(), 10, 1, 12, 2);
    }

    private static void mendsAQuote() {
        Check.says(4, "QUOTE (11) of an outcome becomes v: what it was.");
        ranges(new OtherSide(), 11, 3, 12, 4);
    }

    private static void mendsNone() {
        Check.says(4, "BAD.");
        OtherSide x = eight();
        int[] whats = {LEAST, -1, 12, 13, 14, 15, 16, MOST};
        for (int what : whats) {
            due("mend what " + what, x.mend(0, what, 0), BAD);
        }
        due("no change", x.count(3), 0);
    }

    private static void urnsAtFirst() {
        Check.says(0, "URNS 0 .. 3: RED, WHITE (0 .. 9 each; 1 and 1 at first).");
        OtherSide x = new OtherSide();
        ranges(x, 3, 4, 9, 1);
        ranges(x, 4, 4, 9, 1);
    }

    private static void testsAtFirst() {
        Check.says(0, "TESTS 0 .. 3: RIGHT for the ILL, RIGHT for the WELL (in 0 .. 12 of twelve; 9 at first, both), "
            + "PRICE (0 .. 99; 10 at first).");
        OtherSide x = new OtherSide();
        ranges(x, 5, 4, 12, 9);
        ranges(x, 6, 4, 12, 9);
        ranges(x, 7, 4, 99, 10);
    }

    private static void illAtFirst() {
        Check.says(0, "ILL (0 .. 99 of a hundred; 10 at first).");
        OtherSide x = new OtherSide();
        Check.chance("ill at first", x.ill(0, 0), x.ill(0, 1), 1, 10);
        x.mend(0, 9, 99);
        Check.chance("ill 99", x.ill(0, 0), x.ill(0, 1), 99, 100);
        due("100", x.mend(0, 9, 100), BAD);
        x.mend(0, 9, 0);
        Check.chance("ill 0", x.ill(0, 0), x.ill(0, 1), 0, 1);
    }

    private static void witnessesAtFirst() {
        Check.says(0, "WITNESSES 0 .. 5: LIES (in 0 .. 12 of twelve; 3 at first).");
        ranges(new OtherSide(), 8, 6, 12, 3);
    }

    private static void beforeAtFirst() {
        Check.says(0, "BEFORE (0 .. 12 of twelve; 2 at first): how likely it is so.");
        OtherSide x = new OtherSide();
        Check.chance("at first", x.isSo(0, 0), x.isSo(0, 1), 1, 6);
        x.mend(0, 10, 12);
        Check.chance("12", x.isSo(0, 0), x.isSo(0, 1), 1, 1);
        due("13", x.mend(0, 10, 13), BAD);
        x.mend(0, 10, 0);
        Check.chance("0", x.isSo(0, 0), x.isSo(0, 1), 0, 1);
    }

    private static void quotesAtFirst() {
        Check.says(0, "BETS on three outcomes, just one of which comes: QUOTES (0 .. 12 of twelve each; 4 at first):");
        OtherSide x = new OtherSide();
        due("three fair ones at first", x.sure(-1), NOT);
        ranges(x, 11, 3, 12, 4);
        due("no fourth", x.mend(3, 11, 4), BAD);
    }

    // ---- promise 5

    private static void ofAsOfMend() {
        Check.says(5, "As of mend() (0 to 11);");
        int[] numbers = {8, 8, 8, 4, 4, 4, 4, 4, 6, 1, 1, 3};
        int[] first = {1, 0, 0, 1, 1, 9, 9, 10, 3, 10, 2, 4};
        OtherSide x = new OtherSide();
        for (int i = 0; i < 8; i++) {
            x.card(1);
        }
        for (int what = 0; what < 12; what++) {
            for (int number = 0; number < 9; number++) {
                due("of(" + number + ", " + what + ")", x.of(number, what), number < numbers[what] ? first[what] : BAD);
            }
        }
    }

    private static void ofLaidAside() {
        Check.says(5, "of a CARD 12 how many are laid aside;");
        OtherSide x = new OtherSide();
        due("no card", x.of(0, 12), BAD);
        x.card(119);
        x.card(0);
        due("none yet", x.of(0, 12), 0);
        for (int i = 1; i <= 9; i++) {
            x.draw(i);
            due("laid aside", x.of(0, 12), i);
        }
        x.mend(0, 0, 1);
        x.draw(0);
        due("more than nine", x.of(0, 12), 10);
        due("of the other none", x.of(1, 12), 0);
        due("no card 2", x.of(2, 12), BAD);
        due("no card -1", x.of(-1, 12), BAD);
        due("no card 8", x.of(8, 12), BAD);
        x.putBack();
        due("none any more", x.of(0, 12), 0);
    }

    private static void ofShownInDeed() {
        Check.says(5, "of a colour 13 how often SHOWN in deed;");
        OtherSide x = new OtherSide();
        x.card(552);
        x.card(2);
        for (int c = 0; c < 6; c++) {
            due("none yet of " + c, x.of(c, 13), 0);
        }
        for (int i = 0; i < 4; i++) {
            x.draw(i);
        }
        due("the first colour", x.of(0, 13), 2);
        due("the last colour", x.of(5, 13), 2);
        due("another one", x.of(1, 13), 0);
        due("no colour 6", x.of(6, 13), BAD);
        due("no colour -1", x.of(-1, 13), BAD);
        x.putBack();
        due("put back, it was shown still", x.of(5, 13), 2);
    }

    private static void ofTheLatest() {
        Check.says(5, "number 0: 14 the latest CARD (NOT),");
        OtherSide x = new OtherSide();
        due("none", x.of(0, 14), NOT);
        for (int i = 0; i < 7; i++) {
            x.card(0);
        }
        x.card(1);
        due("none yet", x.of(0, 14), NOT);
        x.draw(0);
        due("the last", x.of(0, 14), 7);
        x.mend(0, 0, 1);
        x.draw(0);
        due("the first", x.of(0, 14), 0);
        due("a draw from none", x.draw(0), OtherSide.STATE);
        due("the first still", x.of(0, 14), 0);
        due("number 1", x.of(1, 14), BAD);
        due("number -1", x.of(-1, 14), BAD);
    }

    private static void ofAllInTheHat() {
        Check.says(5, "15 all that are in THE HAT.");
        OtherSide x = new OtherSide();
        due("none", x.of(0, 15), 0);
        for (int i = 0; i < 8; i++) {
            x.card(9);
        }
        due("all", x.of(0, 15), 72);
        x.draw(5);
        due("one less", x.of(0, 15), 71);
        due("number 1", x.of(1, 15), BAD);
        due("number -1", x.of(-1, 15), BAD);
    }

    private static void ofNone() {
        Check.says(5, "BAD.");
        OtherSide x = eight();
        int[] whats = {LEAST, -1, 16, MOST};
        for (int what : whats) {
            due("of(0, " + what + ")", x.of(0, what), BAD);
        }
        for (int what = 0; what < 16; what++) {
            due("of(" + LEAST + ", " + what + ")", x.of(LEAST, what), BAD);
            due("of(" + MOST + ", " + what + ")", x.of(MOST, what), BAD);
        }
    }
}
