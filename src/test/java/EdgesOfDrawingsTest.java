/** The edges that the document names of drawn, draw, putBack, image, back, undo, redo (promises 22 to 28), sentence by sentence. */
public final class EdgesOfDrawingsTest {
    private static final int BAD = OtherSide.BAD, NOT = OtherSide.NOT, STATE = OtherSide.STATE;
    private static final int LEAST = Integer.MIN_VALUE, MOST = Integer.MAX_VALUE;
    private static final int[] SEEDS = {0, 1, -1, LEAST, MOST};

    public static void main(String[] args) {
        oneToSixtyTimes();
        seedsThatWrap();
        theCardByCards();
        itsFirstSide();
        aheadOfEachDraw();
        howOftenEach();
        fromAnEmptyHat();
        inThoughtAlone();
        drawnAsOne();
        drawnOfNone();
        badAheadOfState();
        laidAside();
        theColourAndTheOther();
        oneAfterAnother();
        drawFromNone();
        putBackAll();
        putBackNone();
        putBackToNine();
        ledByColours();
        imageOfTheHat();
        imageOfNone();
        imageKeeps();
        imageKeepsNothingElse();
        theLatestImage();
        laidBackAgain();
        cardsThatCameSince();
        noImage();
        theLatestFirst();
        everyChange();
        doneAgain();
        anotherCameBehind();
        theSameIsNoChange();
        refusedIsNoChange();
        fortyAtMost();
        fortyDoneAgain();
        deedsAreNone();
        behindDeeds();
        undoneOfNone();
        doneAgainOfNone();
        Check.end("EdgesOfDrawingsTest");
    }

    private static void due(String call, long got, long want) {
        Check.due(call, got, want);
    }

    /** Eight cards, of the first one, of the last eight of it; each card's first side is red (0), the other is not. */
    private static OtherSide eight() {
        return Check.hat(11, 12, 13, 14, 15, 16, 17, 18);
    }

    private static void many(OtherSide x, int... many) {
        for (int i = 0; i < many.length; i++) {
            due("MANY of " + i, x.of(i, 0), many[i]);
        }
    }

    private static void aside(OtherSide x, int... aside) {
        int all = 0;
        for (int i = 0; i < aside.length; i++) {
            due("aside of " + i, x.of(i, 12), aside[i]);
            all += aside[i];
        }
        due("all aside", x.count(1), all);
    }

    private static void led(OtherSide x, int latest, int... led) {
        for (int c = 0; c < led.length; c++) {
            due("led " + c, x.of(c, 13), led[c]);
        }
        due("the latest", x.of(0, 14), latest);
    }

    // ---- promise 22

    private static void oneToSixtyTimes() {
        Check.says(0, "DRAWN: n times (1 .. 60) by a SEED, in thought:");
        OtherSide x = Check.hat(551);
        int[] none = {LEAST, -1, 0, 61, 62, 1000, MOST};
        for (int n : none) {
            due(n + " times", x.drawn(7, n, 500), BAD);
        }
        for (int n = 1; n <= 60; n++) {
            due(n + " times", x.drawn(7, n, 500), n);
        }
    }

    private static void seedsThatWrap() {
        Check.says(0, "z = z * 1103515245 + 12345 (an int; SEED at first) ahead of each draw, of a card and again of its SIDE:");
        int[] first = {28, 37, 38, 28, 38};
        int[] firstOfThree = {42, 49, 50, 42, 50};
        for (int i = 0; i < SEEDS.length; i++) {
            OtherSide x = Check.hat(19);
            due("first sides by " + SEEDS[i], x.drawn(SEEDS[i], 60, 0), first[i]);
            due("second sides by " + SEEDS[i], x.drawn(SEEDS[i], 60, 100), 60 - first[i]);
            Check.law(x, "s?1;3");
            due("first sides of weight 3 by " + SEEDS[i], x.drawn(SEEDS[i], 60, 0), firstOfThree[i]);
        }
    }

    private static void theCardByCards() {
        Check.says(0, "the (z >>> 8) % (all cards)-th card by CARDS,");
        int[] seeds = {0, 1, -1, LEAST, MOST, 2, 123456789, -987654321};
        int[] cards = {4, 4, 1, 3, 2, 5, 4, 1};
        int[] sides = {0, 0, 0, 0, 0, 1, 0, 1};
        for (int i = 0; i < seeds.length; i++) {
            OtherSide x = eight();
            due("draw(" + seeds[i] + ")", x.draw(seeds[i]), sides[i] == 0 ? 1 : 10);
            due("its card", x.of(0, 14), cards[i]);
        }
        OtherSide last = Check.hat(0, 0, 0, 0, 0, 0, 0, 231);
        due("of the last alone", last.draw(0), 23);
        due("its card", last.of(0, 14), 7);
    }

    private static void itsFirstSide() {
        Check.says(0, "then its first SIDE, if (z >>> 8) % (both WEIGHTS) is below its WEIGHT:");
        int[] seeds = {0, 1, -1, LEAST, MOST, 2, 123456789, -987654321};
        int[] sides = {1, 0, 0, 1, 0, 1, 1, 1};
        for (int i = 0; i < seeds.length; i++) {
            OtherSide x = eight();
            Check.law(x, "s?3;1");
            due("draw(" + seeds[i] + ")", x.draw(seeds[i]), sides[i] == 0 ? 1 : 10);
        }
        OtherSide never = Check.hat(12);
        Check.law(never, "s");
        due("a first side of weight 0", never.drawn(0, 60, 0), 0);
        due("a first side of weight 0, in deed", never.draw(0), 10);
        Check.law(never, "!s");
        due("a second side of weight 0", never.drawn(0, 60, 0), 60);
        due("a second side of weight 0, in deed", never.draw(0), 1);
    }

    private static void aheadOfEachDraw() {
        Check.says(0, "ahead of each draw, of a card and again of its SIDE:");
        OtherSide x = Check.hat(1, 111, 11);
        int[] once = {1, 1, 0, 1, 1};
        int[] twice = {2, 2, 1, 1, 1};
        int[] sixty = {29, 33, 32, 34, 40};
        for (int i = 0; i < SEEDS.length; i++) {
            due("once by " + SEEDS[i], x.drawn(SEEDS[i], 1, 0), once[i]);
            due("twice by " + SEEDS[i], x.drawn(SEEDS[i], 2, 0), twice[i]);
            due("sixty times by " + SEEDS[i], x.drawn(SEEDS[i], 60, 0), sixty[i]);
            due("by the same seed the same", x.drawn(SEEDS[i], 2, 0), twice[i]);
        }
    }

    private static void howOftenEach() {
        Check.says(0, "how often c is SHOWN; how often d is on the other SIDE then.");
        OtherSide x = Check.hat(1, 111, 11);
        int[] red = {29, 33, 32, 34, 40};
        int[] redToo = {21, 19, 22, 22, 24};
        for (int i = 0; i < SEEDS.length; i++) {
            due("red by " + SEEDS[i], x.drawn(SEEDS[i], 60, 0), red[i]);
            due("red, whatever d is", x.drawn(SEEDS[i], 60, 50), red[i]);
            due("red behind", x.drawn(SEEDS[i], 60, 1), redToo[i]);
            due("blue behind", x.drawn(SEEDS[i], 60, 11), red[i] - redToo[i]);
            due("another one behind", x.drawn(SEEDS[i], 60, 51), 0);
            due("another one shown", x.drawn(SEEDS[i], 60, 500), 0);
        }
    }

    private static void fromAnEmptyHat() {
        Check.says(0, "STATE: THE HAT is empty.");
        OtherSide x = new OtherSide();
        due("no card", x.drawn(1, 1, 0), STATE);
        x.card(110);
        due("none of it", x.drawn(1, 60, 550), STATE);
        x.mend(0, 0, 1);
        due("one of it", x.drawn(1, 60, 100), 60);
        x.draw(1);
        due("laid aside", x.drawn(1, 60, 100), STATE);
        x.putBack();
        due("put back", x.drawn(1, 60, 100), 60);
    }

    private static void inThoughtAlone() {
        Check.says(0, "DRAWN: n times (1 .. 60) by a SEED, in thought:");
        OtherSide x = Check.hat(1, 111);
        x.drawn(5, 60, 0);
        many(x, 1, 1);
        aside(x, 0, 0);
        led(x, NOT, 0, 0, 0, 0, 0, 0);
        due("no change", x.count(3), 0);
        due("more often than there are cards", Check.hat(1).drawn(5, 60, 0), 60);
    }

    private static void drawnAsOne() {
        Check.says(22, "DRAWN (cdw: 100 c, 10 d and what): c (what 0), d on the other SIDE (1).");
        OtherSide x = Check.hat(51);
        int red = x.drawn(3, 60, 0);
        due("5 shown", x.drawn(3, 60, 500), 60 - red);
        due("0 shown, 5 behind", x.drawn(3, 60, 51), red);
        due("5 shown, 0 behind", x.drawn(3, 60, 501), 60 - red);
        due("5 shown, 5 behind", x.drawn(3, 60, 551), 0);
        due("5 shown, whatever d is", x.drawn(3, 60, 550), 60 - red);
    }

    private static void drawnOfNone() {
        Check.says(22, "BAD; STATE.");
        OtherSide x = Check.hat(551);
        int[] none = {LEAST, -551, -100, -10, -1, 2, 3, 9, 12, 60, 61, 90, 160, 502, 552, 560, 561, 590, 600, 601, 1000,
            5551, MOST};
        for (int cdw : none) {
            due("cdw " + cdw, x.drawn(1, 1, cdw), BAD);
        }
        due("the most", x.drawn(1, 1, 551), 1);
        due("the least", x.drawn(1, 1, 0), 0);
    }

    private static void badAheadOfState() {
        Check.says(22, "BAD; STATE.");
        OtherSide x = new OtherSide();
        due("0 times from none", x.drawn(1, 0, 0), BAD);
        due("61 times from none", x.drawn(1, 61, 0), BAD);
        due("what 2 from none", x.drawn(1, 1, 2), BAD);
        due("from none", x.drawn(1, 1, 0), STATE);
    }

    // ---- promise 23

    private static void laidAside() {
        Check.says(0, "IN DEED: one is drawn by a SEED likewise and laid aside (MANY is 1 less):");
        OtherSide x = eight();
        x.draw(0);
        many(x, 1, 2, 3, 4, 4, 6, 7, 8);
        aside(x, 0, 0, 0, 0, 1, 0, 0, 0);
        due("in the hat", x.of(0, 15), 35);
        OtherSide y = Check.hat(9);
        for (int left = 8; left >= 0; left--) {
            due("draw", y.draw(left), 0);
            many(y, left);
            aside(y, 9 - left);
        }
        due("none is left", y.draw(0), STATE);
        many(y, 0);
        aside(y, 9);
    }

    private static void theColourAndTheOther() {
        Check.says(0, "10 times the colour SHOWN, and the other;");
        OtherSide x = Check.hat(59);
        Check.law(x, "s");
        due("5 shown", x.draw(0), 50);
        Check.law(x, "!s");
        due("5 behind", x.draw(0), 5);
        due("both 5", Check.hat(551).draw(0), 55);
        due("both 0", Check.hat(1).draw(0), 0);
    }

    private static void oneAfterAnother() {
        Check.says(23, "One is drawn in deed.");
        OtherSide x = Check.hat(1, 111, 221);
        int seen = 0;
        for (int i = 0; i < 3; i++) {
            int got = x.draw(LEAST);
            seen |= got % 11 == 0 ? 1 << got / 11 : 8;
            due("cards left", x.of(0, 15), 2 - i);
        }
        due("each once", seen, 7);
        many(x, 0, 0, 0);
    }

    private static void drawFromNone() {
        Check.says(23, "STATE: THE HAT is empty.");
        OtherSide x = new OtherSide();
        for (int seed : SEEDS) {
            due("no card", x.draw(seed), STATE);
        }
        x.card(110);
        x.card(220);
        for (int seed : SEEDS) {
            due("none of them", x.draw(seed), STATE);
        }
        led(x, NOT, 0, 0, 0, 0, 0, 0);
        aside(x, 0, 0);
        x.mend(1, 0, 1);
        due("one of them", x.draw(0), 22);
        due("none any more", x.draw(0), STATE);
        led(x, 1, 0, 0, 1, 0, 0, 0);
    }

    // ---- promise 24

    private static void putBackAll() {
        Check.says(24, "All are put back: how many were laid aside.");
        OtherSide x = eight();
        for (int i = 0; i < 36; i++) {
            x.draw(i);
        }
        due("the hat is empty", x.of(0, 15), 0);
        aside(x, 1, 2, 3, 4, 5, 6, 7, 8);
        due("all", x.putBack(), 36);
        many(x, 1, 2, 3, 4, 5, 6, 7, 8);
        aside(x, 0, 0, 0, 0, 0, 0, 0, 0);
        due("none any more", x.putBack(), 0);
        due("how often red and blue were shown, still", x.of(0, 13) + x.of(1, 13), 36);
    }

    private static void putBackNone() {
        Check.says(0, "all are put back.");
        due("no card", new OtherSide().putBack(), 0);
        OtherSide x = Check.hat(19);
        due("none aside", x.putBack(), 0);
        many(x, 9);
        x.draw(0);
        x.mend(0, 0, 0);
        due("one aside", x.putBack(), 1);
        many(x, 1);
    }

    private static void putBackToNine() {
        Check.says(0, "MANY (0 .. 9: how many of it are in THE HAT).");
        OtherSide x = Check.hat(9, 119);
        for (int i = 0; i < 18; i++) {
            x.draw(i);
        }
        x.mend(0, 0, 9);
        x.mend(1, 0, 1);
        due("all", x.putBack(), 18);
        many(x, 9, 9);
        aside(x, 0, 0);
        due("in the hat", x.of(0, 15), 18);
        OtherSide y = Check.hat(9);
        y.draw(0);
        due("done again", y.mend(0, 0, 9), 8);
        due("one aside", y.putBack(), 1);
        many(y, 9);
    }

    private static void ledByColours() {
        Check.says(0, "LED: how often each colour was SHOWN in deed; the latest CARD.");
        OtherSide x = Check.hat(52, 220);
        led(x, NOT, 0, 0, 0, 0, 0, 0);
        Check.law(x, "s");
        x.draw(0);
        led(x, 0, 0, 0, 0, 0, 0, 1);
        Check.law(x, "!s");
        x.draw(0);
        led(x, 0, 1, 0, 0, 0, 0, 1);
        x.draw(0);
        led(x, 0, 1, 0, 0, 0, 0, 1);
        x.mend(1, 0, 1);
        x.draw(0);
        led(x, 1, 1, 0, 1, 0, 0, 1);
        x.putBack();
        x.drawn(0, 60, 0);
        led(x, 1, 1, 0, 1, 0, 0, 1);
        x.mend(1, 1, 3);
        led(x, 1, 1, 0, 1, 0, 0, 1);
    }

    // ---- promises 25 and 26

    private static void imageOfTheHat() {
        Check.says(25, "AN IMAGE is kept: how many are in THE HAT.");
        OtherSide x = Check.hat(9, 9, 9, 9, 9, 9, 9, 9);
        due("all", x.image(), 72);
        x.draw(0);
        due("one less", x.image(), 71);
        due("laid back", x.back(), 71);
    }

    private static void imageOfNone() {
        Check.says(25, "AN IMAGE is kept: how many are in THE HAT.");
        OtherSide x = new OtherSide();
        due("of no card", x.image(), 0);
        due("laid back", x.back(), 0);
        x.card(119);
        due("a card that came since", x.back(), 9);
        OtherSide y = Check.hat(1);
        y.draw(0);
        due("of an empty hat", y.image(), 0);
        y.putBack();
        due("laid back", y.back(), 0);
        aside(y, 1);
    }

    private static void imageKeeps() {
        Check.says(0, "AN IMAGE keeps MANY of CARDS, what is laid aside, what LED tells.");
        OtherSide x = Check.hat(3, 550);
        x.draw(0);
        due("image", x.image(), 2);
        x.draw(0);
        x.mend(1, 0, 9);
        x.mend(0, 0, 0);
        x.draw(0);
        led(x, 1, 2, 0, 0, 0, 0, 1);
        due("laid back", x.back(), 2);
        many(x, 2, 0);
        aside(x, 1, 0);
        led(x, 0, 1, 0, 0, 0, 0, 0);
        OtherSide y = Check.hat(3);
        y.image();
        y.draw(0);
        due("laid back", y.back(), 3);
        led(y, NOT, 0, 0, 0, 0, 0, 0);
        aside(y, 0);
    }

    private static void imageKeepsNothingElse() {
        Check.says(0, "AN IMAGE keeps MANY of CARDS, what is laid aside, what LED tells.");
        OtherSide x = Check.hat(1);
        x.image();
        for (int what = 1; what < 12; what++) {
            x.mend(0, what, 2 + what % 2);
        }
        Check.law(x, "s+1");
        x.feed('1');
        x.body(3);
        x.row(0, 0, 5);
        x.act(0, 3, 0);
        int changes = x.count(3);
        due("laid back", x.back(), 1);
        for (int what = 1; what < 12; what++) {
            due("what " + what, x.of(0, what), 2 + what % 2);
        }
        due("the law", x.weight(0, 1), 2);
        due("bytes", x.count(2), 1);
        due("changes", x.count(3), changes);
        due("bodies", x.count(4), 1);
        due("bodies that ran", x.count(5), 7);
        due("a row", x.element(0, 4), 0);
    }

    private static void theLatestImage() {
        Check.says(25, "AN IMAGE is kept:");
        OtherSide x = Check.hat(9);
        due("nine", x.image(), 9);
        x.draw(0);
        due("eight", x.image(), 8);
        x.draw(0);
        due("the latest", x.back(), 8);
    }

    private static void laidBackAgain() {
        Check.says(26, "It is laid back");
        OtherSide x = Check.hat(19);
        x.draw(0);
        x.image();
        for (int i = 0; i < 3; i++) {
            x.putBack();
            x.mend(0, 0, i);
            x.draw(i);
            due("laid back", x.back(), 8);
            aside(x, 1);
            many(x, 8);
        }
    }

    private static void cardsThatCameSince() {
        Check.says(26, "(CARDS that came since stay as they are): how many are in THE HAT.");
        OtherSide x = Check.hat(1);
        due("image", x.image(), 1);
        for (int i = 1; i < 8; i++) {
            x.card(119);
        }
        x.mend(0, 0, 0);
        x.draw(0);
        int latest = x.of(0, 14);
        x.mend(7, 0, 4);
        due("laid back", x.back(), 1 + 9 * 6 + 4 - (latest == 7 ? 0 : 1));
        due("MANY of the first", x.of(0, 0), 1);
        due("MANY of the last", x.of(7, 0), 4);
        due("aside it stays", x.of(latest, 12), 1);
        due("cards", x.count(0), 8);
        led(x, NOT, 0, 0, 0, 0, 0, 0);
    }

    private static void noImage() {
        Check.says(26, "STATE: there is none.");
        OtherSide x = Check.hat(1);
        due("none", x.back(), STATE);
        x.draw(0);
        due("none behind a deed", x.back(), STATE);
        aside(x, 1);
        x.image();
        due("one", x.back(), 0);
    }

    // ---- promises 27 and 28

    private static void theLatestFirst() {
        Check.says(0, "can be UNDONE, the latest first,");
        OtherSide x = Check.hat(123);
        x.mend(0, 0, 9);
        x.mend(0, 3, 5);
        x.mend(0, 0, 7);
        due("three", x.count(3), 3);
        due("undo", x.undo(), 2);
        due("MANY", x.of(0, 0), 9);
        due("RED", x.of(0, 3), 5);
        due("undo", x.undo(), 1);
        due("RED", x.of(0, 3), 1);
        due("MANY", x.of(0, 0), 9);
        due("undo", x.undo(), 0);
        due("MANY", x.of(0, 0), 3);
        due("none", x.undo(), STATE);
    }

    private static void everyChange() {
        Check.says(0, "CHANGES (MANY, SIDES of CARDS; RED, WHITE of URNS; RIGHT, PRICE of TESTS; LIES; ILL, BEFORE; QUOTES)");
        int[] last = {7, 7, 7, 3, 3, 3, 3, 3, 5, 0, 0, 2};
        OtherSide x = Check.hat(234, 234, 234, 234, 234, 234, 234, 234);
        for (int what = 0; what < 12; what++) {
            int was = x.of(last[what], what);
            x.mend(last[what], what, 0);
            due("a change of what " + what, x.count(3), 1);
            due("undo", x.undo(), 0);
            due("what it was", x.of(last[what], what), was);
            due("redo", x.redo(), 0);
            due("what it became", x.of(last[what], what), 0);
            x.undo();
        }
    }

    private static void doneAgain() {
        Check.says(0, "and DONE AGAIN (as long as no other came behind);");
        OtherSide x = new OtherSide();
        x.mend(0, 9, 1);
        x.mend(0, 9, 2);
        x.mend(0, 9, 3);
        x.undo();
        x.undo();
        x.undo();
        for (int i = 1; i <= 3; i++) {
            due("redo", x.redo(), 3 - i);
            due("ILL", x.of(0, 9), i);
            due("may be undone", x.count(3), i);
        }
        due("none", x.redo(), STATE);
        due("undo", x.undo(), 2);
        due("redo", x.redo(), 0);
    }

    private static void anotherCameBehind() {
        Check.says(0, "(as long as no other came behind);");
        OtherSide x = new OtherSide();
        x.mend(0, 9, 1);
        x.mend(0, 9, 2);
        x.undo();
        due("another", x.mend(1, 3, 0), 1);
        due("none", x.redo(), STATE);
        due("may be undone", x.count(3), 2);
        due("undo", x.undo(), 1);
        due("RED", x.of(1, 3), 1);
        due("redo", x.redo(), 0);
        due("RED", x.of(1, 3), 0);
        due("ILL", x.of(0, 9), 1);
    }

    private static void theSameIsNoChange() {
        Check.says(0, "(as long as no other came behind);");
        OtherSide x = new OtherSide();
        due("ILL as it is", x.mend(0, 9, 10), 10);
        due("no change", x.count(3), 0);
        x.mend(0, 9, 11);
        x.undo();
        due("ILL as it is", x.mend(0, 9, 10), 10);
        due("redo", x.redo(), 0);
        due("ILL", x.of(0, 9), 11);
    }

    private static void refusedIsNoChange() {
        Check.says(0, "What is answered so changes nothing.");
        OtherSide x = new OtherSide();
        x.mend(0, 9, 11);
        x.undo();
        due("ILL 100", x.mend(0, 9, 100), BAD);
        due("ILL -1", x.mend(0, 9, -1), BAD);
        due("no card", x.mend(0, 0, 1), BAD);
        due("redo", x.redo(), 0);
        due("none", x.redo(), STATE);
        due("may be undone", x.count(3), 1);
        due("undo", x.undo(), 0);
        due("none", x.undo(), STATE);
        due("may be done again still", x.redo(), 0);
    }

    private static void fortyAtMost() {
        Check.says(0, "40 at most are kept;");
        OtherSide x = new OtherSide();
        for (int i = 1; i <= 41; i++) {
            x.mend(0, 7, 10 + i);
            due("changes", x.count(3), Math.min(i, 40));
        }
        for (int left = 39; left >= 0; left--) {
            due("undo", x.undo(), left);
            due("PRICE", x.of(0, 7), 11 + left);
        }
        due("the first is kept no more", x.undo(), STATE);
        due("PRICE", x.of(0, 7), 11);
        OtherSide y = new OtherSide();
        for (int i = 1; i <= 40; i++) {
            y.mend(0, 7, 10 + i);
        }
        for (int i = 0; i < 40; i++) {
            y.undo();
        }
        due("just forty", y.of(0, 7), 10);
        due("none", y.undo(), STATE);
    }

    private static void fortyDoneAgain() {
        Check.says(0, "40 at most are kept;");
        OtherSide x = new OtherSide();
        for (int i = 1; i <= 89; i++) {
            x.mend(0, 7, 10 + i);
        }
        for (int i = 0; i < 40; i++) {
            x.undo();
        }
        due("PRICE", x.of(0, 7), 59);
        for (int left = 39; left >= 0; left--) {
            due("redo", x.redo(), left);
            due("PRICE", x.of(0, 7), 99 - left);
        }
        due("none", x.redo(), STATE);
        x.undo();
        due("one behind", x.mend(0, 7, 1), 98);
        due("forty again", x.count(3), 40);
        due("none again", x.redo(), STATE);
        due("undo", x.undo(), 39);
        due("PRICE", x.of(0, 7), 98);
    }

    private static void deedsAreNone() {
        Check.says(0, "deeds are none.");
        OtherSide x = Check.hat(119);
        Check.bytes(x, 0, 1, 1, 1);
        x.mend(0, 0, 5);
        x.undo();
        due("draw", x.draw(0), 11);
        x.drawn(0, 1, 0);
        due("put back", x.putBack(), 1);
        due("image", x.image(), 9);
        due("laid back", x.back(), 9);
        due("a card", x.card(1), 1);
        due("one from a row", x.cards(0, 0, 1), 1);
        due("a law", Check.law(x, "s"), 1);
        x.body(0);
        x.act(0, 0, 0);
        due("none of these", x.count(3), 0);
        due("none to undo", x.undo(), STATE);
        due("the change still", x.redo(), 0);
        due("MANY", x.of(0, 0), 5);
    }

    private static void behindDeeds() {
        Check.says(27, "UNDONE: how many may still be.");
        OtherSide x = Check.hat(119);
        x.mend(0, 0, 5);
        x.draw(0);
        x.draw(0);
        due("undo", x.undo(), 0);
        many(x, 9);
        aside(x, 2);
        due("redo", x.redo(), 0);
        many(x, 5);
        due("put back", x.putBack(), 2);
        many(x, 7);
        due("undo", x.undo(), 0);
        many(x, 9);
    }

    private static void undoneOfNone() {
        Check.says(27, "STATE: none.");
        OtherSide x = Check.hat(1);
        due("none", x.undo(), STATE);
        x.mend(0, 1, 5);
        due("one", x.undo(), 0);
        due("none any more", x.undo(), STATE);
        due("none any more", x.undo(), STATE);
        due("the side", x.of(0, 1), 0);
        due("one to do again", x.redo(), 0);
    }

    private static void doneAgainOfNone() {
        Check.says(28, "DONE AGAIN: how many may still be. STATE: none.");
        OtherSide x = Check.hat(1);
        due("none", x.redo(), STATE);
        x.mend(0, 1, 5);
        due("none undone", x.redo(), STATE);
        x.mend(0, 2, 5);
        x.undo();
        x.undo();
        due("one more", x.redo(), 1);
        due("no more", x.redo(), 0);
        due("none", x.redo(), STATE);
        due("none", x.redo(), STATE);
        due("two to undo", x.count(3), 2);
    }
}
