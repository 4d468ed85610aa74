import java.util.ArrayList;
import java.util.Random;

/** Promises 22 to 28: drawn, draw, putBack, image, back, undo, redo. */
public final class DrawingsTest {
    public static void main(String[] args) {
        refusals();
        randomDrawn();
        randomDraw();
        weightsAheadOfDrawing();
        putBack();
        putBackOverMended();
        putBackOverDoneAgain();
        putBackAtNine();
        randomPutBack();
        images();
        cardsSinceTheImage();
        undone();
        fortyAtMost();
        undoneEachKind();
        noChanges();
        mendToTheSame();
        sameKeepsThoseUndone();
        sameAtForty();
        randomChanges();
        undoneBehindDeeds();
        Check.end("DrawingsTest");
    }

    private static void refusals() {
        OtherSide x = new OtherSide();
        Check.due("drawn from none", x.drawn(1, 1, 0), OtherSide.STATE);
        Check.due("draw from none", x.draw(1), OtherSide.STATE);
        Check.due("BAD is named first", x.drawn(1, 0, 0), OtherSide.BAD);
        x.card(110);
        Check.due("drawn of no many", x.drawn(1, 1, 0), OtherSide.STATE);
        Check.due("draw of no many", x.draw(1), OtherSide.STATE);
        x.mend(0, 0, 9);
        int[] times = {0, -1, 61, Integer.MIN_VALUE, Integer.MAX_VALUE};
        for (int n : times) {
            Check.due("n " + n, x.drawn(1, n, 100), OtherSide.BAD);
        }
        int[] bad = {-1, -100, 2, 9, 102, 60, 61, 160, 600, 601, 700, 10000, Integer.MIN_VALUE, Integer.MAX_VALUE};
        for (int cdw : bad) {
            Check.due("cdw " + cdw, x.drawn(1, 1, cdw), OtherSide.BAD);
        }
        Check.due("sixty", x.drawn(1, 60, 100), 60);
        Check.due("sixty, the other side", x.drawn(1, 60, 111), 60);
        Check.due("nothing is laid aside", x.count(1), 0);
        Check.due("nothing is led", x.of(1, 13), 0);
        Check.due("no latest", x.of(0, 14), OtherSide.NOT);
    }

    private static OtherSide hat(Random random, int mostOfEach) {
        String[] laws = {"", "s+1", "3*s", "a", "m", "n%2+s", "a=1?3;s", "m>2?s;1"};
        OtherSide x = new OtherSide();
        int cards = 1 + random.nextInt(8);
        for (int i = 0; i < cards; i++) {
            x.card(random.nextInt(6) * 100 + random.nextInt(6) * 10 + random.nextInt(mostOfEach + 1));
        }
        Check.law(x, laws[random.nextInt(laws.length)]);
        return x;
    }

    /** Of each card its MANY, its sides, their weights: asked once, for an object has but 512 calls. */
    private static int[][] cards(OtherSide x) {
        int[][] cards = new int[x.count(0)][];
        for (int i = 0; i < cards.length; i++) {
            cards[i] = new int[] {x.of(i, 0), x.of(i, 1), x.of(i, 2), x.weight(i, 0), x.weight(i, 1)};
        }
        return cards;
    }

    /** The next of a seed: the seed first, then the card by it; then the side. */
    private static int[] oneDrawn(int[][] cards, int seed) {
        int all = 0;
        for (int[] card : cards) {
            all += card[0];
        }
        int z = seed * 1103515245 + 12345;
        int place = (z >>> 8) % all;
        int card = 0;
        while (place >= cards[card][0]) {
            place -= cards[card][0];
            card++;
        }
        z = z * 1103515245 + 12345;
        int side = (z >>> 8) % (cards[card][3] + cards[card][4]) < cards[card][3] ? 0 : 1;
        return new int[] {z, card, side};
    }

    private static void randomDrawn() {
        Random random = new Random(5);
        for (int run = 0; run < 300; run++) {
            OtherSide x = hat(random, 9);
            int[][] cards = cards(x);
            int seed = run == 0 ? 0 : random.nextInt();
            int n = 1 + random.nextInt(60);
            int c = random.nextInt(6);
            int d = random.nextInt(6);
            if (x.of(0, 15) == 0) {
                Check.due("none", x.drawn(seed, n, 0), OtherSide.STATE);
                continue;
            }
            int shown = 0;
            int both = 0;
            int z = seed;
            for (int i = 0; i < n; i++) {
                int[] one = oneDrawn(cards, z);
                z = one[0];
                if (cards[one[1]][1 + one[2]] == c) {
                    shown++;
                    both += cards[one[1]][2 - one[2]] == d ? 1 : 0;
                }
            }
            Check.due("drawn", x.drawn(seed, n, 100 * c + 10 * d), shown);
            Check.due("drawn, the other side", x.drawn(seed, n, 100 * c + 10 * d + 1), both);
            Check.due("drawn once more", x.drawn(seed, n, 100 * c + 10 * d), shown);
        }
    }

    private static void randomDraw() {
        Random random = new Random(6);
        for (int run = 0; run < 400; run++) {
            OtherSide x = hat(random, 1 + run % 9);
            int[] led = new int[6];
            int[] asideOf = new int[8];
            int aside = 0;
            // An object has but 512 calls: eight of the hat's cards at most.
            while (aside < 8 && x.of(0, 15) > 0) {
                int seed = random.nextInt();
                int[][] cards = cards(x);
                int[] one = oneDrawn(cards, seed);
                int[] card = cards[one[1]];
                int colour = card[1 + one[2]];
                Check.due("draw", x.draw(seed), 10 * colour + card[2 - one[2]]);
                aside++;
                asideOf[one[1]]++;
                led[colour]++;
                Check.due("MANY", x.of(one[1], 0), card[0] - 1);
                Check.due("aside", x.of(one[1], 12), asideOf[one[1]]);
                Check.due("all aside", x.count(1), aside);
                Check.due("latest", x.of(0, 14), one[1]);
                for (int c = 0; c < 6; c++) {
                    Check.due("led", x.of(c, 13), led[c]);
                }
            }
            int left = x.of(0, 15);
            if (left == 0) {
                Check.due("empty", x.draw(0), OtherSide.STATE);
            }
            Check.due("all are put back", x.putBack(), aside);
            Check.due("all in the hat", x.of(0, 15), left + aside);
        }
    }

    private static void weightsAheadOfDrawing() {
        OtherSide x = new OtherSide();
        x.card(12);
        Check.law(x, "m=2?s;m=1?!s;1");
        Check.due("of two the second side", x.draw(1), 10);
        Check.due("of one the first side", x.draw(1), 1);
    }

    private static void putBack() {
        OtherSide x = new OtherSide();
        Check.due("nothing aside", x.putBack(), 0);
        x.card(112);
        x.draw(1);
        x.draw(1);
        Check.due("two", x.putBack(), 2);
        Check.due("none any more", x.putBack(), 0);
        Check.due("MANY", x.of(0, 0), 2);
        Check.due("aside", x.of(0, 12), 0);
        Check.due("still led", x.of(1, 13), 2);
        Check.due("still the latest", x.of(0, 14), 0);
    }

    private static void putBackOverMended() {
        OtherSide x = new OtherSide();
        x.card(119);
        x.draw(1);
        x.draw(1);
        Check.due("mend", x.mend(0, 0, 9), 7);
        Check.due("all are put back", x.putBack(), 2);
        Check.due("nine at most", x.of(0, 0), 9);
        Check.due("all in the hat", x.of(0, 15), 9);
        Check.due("none aside", x.of(0, 12) + x.count(1), 0);
        Check.due("none any more", x.putBack(), 0);
        Check.due("what it was", x.mend(0, 0, 3), 9);
        Check.due("undone", x.undo(), 1);
        Check.due("as it was", x.of(0, 0), 9);
    }

    private static void putBackOverDoneAgain() {
        OtherSide x = new OtherSide();
        x.card(1);
        x.mend(0, 0, 9);
        x.undo();
        x.draw(0);
        Check.due("done again", x.redo(), 0);
        Check.due("put back", x.putBack(), 1);
        Check.due("an image of nine", x.image(), 9);
        x.mend(0, 0, 4);
        Check.due("laid back", x.back(), 9);
    }

    /** Each MANY and how many are aside at all edges: what is put back of a card stops at nine. */
    private static void putBackAtNine() {
        for (int aside = 0; aside <= 9; aside++) {
            for (int many = 0; many <= 9; many++) {
                OtherSide x = new OtherSide();
                x.card(119);
                for (int i = 0; i < aside; i++) {
                    x.draw(i);
                }
                x.mend(0, 0, many);
                x.card(222);
                Check.due("how many were aside", x.putBack(), aside);
                Check.due("MANY " + many + " and " + aside, x.of(0, 0), Math.min(9, many + aside));
                Check.due("of another card", x.of(1, 0), 2);
                Check.due("all in the hat", x.of(0, 15), 2 + Math.min(9, many + aside));
                Check.due("none aside", x.count(1), 0);
            }
        }
    }

    /** MANY and those aside of two cards by an account of their own, with images, through any calls. */
    private static void randomPutBack() {
        Random random = new Random(16);
        for (int run = 0; run < 400; run++) {
            OtherSide x = new OtherSide();
            x.card(9);
            x.card(118);
            int[] many = {9, 8};
            int[] aside = {0, 0};
            int[] image = null;
            for (int i = 0; i < 100; i++) {
                int how = random.nextInt(12);
                if (how < 6) {
                    int got = x.draw(random.nextInt());
                    Check.due("empty", got == OtherSide.STATE ? 1 : 0, many[0] + many[1] == 0 ? 1 : 0);
                    if (got >= 0) {
                        many[got / 11]--;
                        aside[got / 11]++;
                    }
                } else if (how < 9) {
                    int card = random.nextInt(2);
                    int v = random.nextInt(10);
                    Check.due("mend", x.mend(card, 0, v), many[card]);
                    many[card] = v;
                } else if (how == 9) {
                    Check.due("put back", x.putBack(), aside[0] + aside[1]);
                    for (int card = 0; card < 2; card++) {
                        many[card] = Math.min(9, many[card] + aside[card]);
                        aside[card] = 0;
                    }
                } else if (how == 10) {
                    Check.due("image", x.image(), many[0] + many[1]);
                    image = new int[] {many[0], many[1], aside[0], aside[1]};
                } else if (image != null) {
                    many = new int[] {image[0], image[1]};
                    aside = new int[] {image[2], image[3]};
                    Check.due("laid back", x.back(), many[0] + many[1]);
                }
                for (int card = 0; card < 2; card++) {
                    Check.due("MANY", x.of(card, 0), many[card]);
                    Check.due("aside", x.of(card, 12), aside[card]);
                }
            }
        }
    }

    private static void images() {
        OtherSide x = new OtherSide();
        Check.due("none yet", x.back(), OtherSide.STATE);
        x.card(114);
        x.card(220);
        x.draw(1);
        Check.due("three in the hat", x.image(), 3);
        x.draw(1);
        x.mend(1, 0, 5);
        x.mend(1, 1, 3);
        x.mend(0, 3, 7);
        while (x.of(1, 0) == 5) {
            x.draw(x.of(0, 15));
        }
        Check.due("the latest", x.of(0, 14), 1);
        Check.due("laid back", x.back(), 3);
        Check.due("MANY", x.of(0, 0), 3);
        Check.due("MANY of the other", x.of(1, 0), 0);
        Check.due("aside", x.of(0, 12), 1);
        Check.due("aside of the other", x.of(1, 12), 0);
        Check.due("led", x.of(1, 13), 1);
        Check.due("led no more", x.of(3, 13) + x.of(2, 13), 0);
        Check.due("the latest then", x.of(0, 14), 0);
        Check.due("sides stay", x.of(1, 1), 3);
        Check.due("urns stay", x.of(0, 3), 7);
        Check.due("changes stay", x.count(3), 3);
        x.putBack();
        Check.due("laid back again", x.back(), 3);
        Check.due("aside again", x.count(1), 1);
        x.putBack();
        Check.due("another image", x.image(), 4);
        x.draw(1);
        Check.due("laid back", x.back(), 4);
    }

    private static void cardsSinceTheImage() {
        OtherSide x = new OtherSide();
        x.card(1);
        Check.due("one", x.image(), 1);
        x.card(119);
        x.draw(1);
        while (x.of(0, 0) == 1 || x.of(1, 12) == 0) {
            x.draw(x.of(0, 15) * 7);
        }
        int left = x.of(1, 0);
        int aside = x.of(1, 12);
        Check.due("laid back", x.back(), 1 + left);
        Check.due("the card since stays", x.of(1, 0), left);
        Check.due("aside it stays", x.of(1, 12), aside);
        Check.due("led of then", x.of(1, 13), 0);
        Check.due("latest of then", x.of(0, 14), OtherSide.NOT);
        Check.due("still two cards", x.count(0), 2);
        Check.due("put back", x.putBack(), aside);
        OtherSide y = new OtherSide();
        Check.due("an image of none", y.image(), 0);
        y.card(115);
        Check.due("laid back", y.back(), 5);
    }

    private static void undone() {
        OtherSide x = new OtherSide();
        Check.due("none", x.undo(), OtherSide.STATE);
        Check.due("none again", x.redo(), OtherSide.STATE);
        x.mend(0, 3, 2);
        x.mend(0, 3, 5);
        x.mend(0, 3, 7);
        Check.due("three", x.count(3), 3);
        Check.due("two left", x.undo(), 2);
        Check.due("one left", x.undo(), 1);
        Check.due("is 2", x.of(0, 3), 2);
        Check.due("two again", x.redo(), 1);
        Check.due("is 5", x.of(0, 3), 5);
        Check.due("none again", x.redo(), 0);
        Check.due("STATE", x.redo(), OtherSide.STATE);
        x.undo();
        x.undo();
        Check.due("a BAD one is none", x.mend(0, 3, 10), OtherSide.BAD);
        x.card(1);
        x.draw(1);
        x.putBack();
        Check.due("deeds are none", x.redo(), 1);
        x.mend(0, 4, 9);
        Check.due("another came behind", x.redo(), OtherSide.STATE);
        Check.due("is 5", x.of(0, 3), 5);
        Check.due("one left", x.undo(), 2);
        Check.due("white as at first", x.of(0, 4), 1);
        x.undo();
        Check.due("the first one", x.undo(), 0);
        Check.due("red as at first", x.of(0, 3), 1);
        Check.due("STATE", x.undo(), OtherSide.STATE);
    }

    private static void fortyAtMost() {
        OtherSide x = new OtherSide();
        for (int i = 1; i <= 97; i++) {
            x.mend(0, 7, i);
            Check.due("kept", x.count(3), Math.min(i, 40));
        }
        for (int i = 39; i >= 0; i--) {
            Check.due("undo", x.undo(), i);
            Check.due("price", x.of(0, 7), 57 + i);
        }
        Check.due("no more", x.undo(), OtherSide.STATE);
        for (int i = 39; i >= 0; i--) {
            Check.due("redo", x.redo(), i);
            Check.due("price", x.of(0, 7), 97 - i);
        }
        for (int i = 0; i < 15; i++) {
            x.undo();
        }
        x.mend(0, 7, 1);
        Check.due("one behind", x.count(3), 26);
        Check.due("none again", x.redo(), OtherSide.STATE);
        x.undo();
        Check.due("price", x.of(0, 7), 82);
    }

    private static void undoneEachKind() {
        int[] numbers = {2, 2, 2, 4, 4, 4, 4, 4, 6, 1, 1, 3};
        for (int what = 0; what < 12; what++) {
            for (int number = 0; number < numbers[what]; number++) {
                OtherSide x = new OtherSide();
                x.card(123);
                x.card(453);
                int was = x.of(number, what);
                x.mend(number, what, 0);
                Check.due("undo", x.undo(), 0);
                Check.due("undone " + what + " of " + number, x.of(number, what), was);
                Check.due("redo", x.redo(), 0);
                Check.due("done again " + what + " of " + number, x.of(number, what), 0);
            }
        }
    }

    private static void noChanges() {
        OtherSide x = new OtherSide();
        Check.bytes(x, 0, 1, 2, 3);
        x.cards(0, 0, 1);
        x.card(111);
        Check.law(x, "s");
        x.draw(1);
        x.putBack();
        x.image();
        x.back();
        x.body(0);
        x.act(0, 0, 0);
        Check.due("none of these is a change", x.count(3), 0);
        Check.due("STATE", x.undo(), OtherSide.STATE);
    }

    private static void mendToTheSame() {
        int[] numbers = {2, 2, 2, 4, 4, 4, 4, 4, 6, 1, 1, 3};
        for (int what = 0; what < 12; what++) {
            for (int number = 0; number < numbers[what]; number++) {
                OtherSide x = new OtherSide();
                x.card(123);
                x.card(453);
                int was = x.of(number, what);
                Check.due("what it was", x.mend(number, what, was), was);
                Check.due("is still that", x.of(number, what), was);
                Check.due("no change of " + what, x.count(3), 0);
                Check.due("none to undo", x.undo(), OtherSide.STATE);
                x.mend(number, what, was - 1);
                x.undo();
                Check.due("the same again", x.mend(number, what, was), was);
                Check.due("still done again " + what + " of " + number, x.redo(), 0);
                Check.due("became", x.of(number, what), was - 1);
            }
        }
    }

    private static void sameKeepsThoseUndone() {
        OtherSide x = new OtherSide();
        x.card(0);
        x.mend(0, 1, 1);
        x.undo();
        Check.due("one at first", x.mend(0, 3, 1), 1);
        Check.due("done again", x.redo(), 0);
        Check.due("the side is 1 again", x.mend(0, 1, 0), 1);
        x.card(113);
        x.mend(1, 0, 5);
        x.undo();
        x.draw(1 << 20);
        int many = x.of(1, 0);
        Check.due("the same behind a deed", x.mend(1, 0, many), many);
        Check.due("done again behind a deed", x.redo(), 0);
        Check.due("MANY", x.of(1, 0), 5);
    }

    private static void sameAtForty() {
        OtherSide x = new OtherSide();
        for (int i = 0; i < 45; i++) {
            x.mend(0, 7, 11 + i);
        }
        for (int i = 0; i < 50; i++) {
            Check.due("the same", x.mend(0, 7, 55), 55);
        }
        Check.due("still forty", x.count(3), 40);
        for (int i = 39; i >= 0; i--) {
            Check.due("undo", x.undo(), i);
        }
        Check.due("the price ahead of the forty", x.of(0, 7), 15);
    }

    /** Each change as number, what, former, new: a list of those done and one of those undone. */
    private static void randomChanges() {
        Random random = new Random(15);
        for (int run = 0; run < 300; run++) {
            OtherSide x = new OtherSide();
            x.card(14);
            x.card(233);
            ArrayList<int[]> done = new ArrayList<>();
            ArrayList<int[]> undone = new ArrayList<>();
            int undoing = 2 + random.nextInt(5);
            for (int i = 0; i < 120; i++) {
                int how = random.nextInt(10);
                if (how == 9) {
                    x.draw(random.nextInt());
                } else if (how < undoing) {
                    undoOrRedo(x, random.nextBoolean(), done, undone);
                } else {
                    oneMend(x, random, done, undone);
                }
                Check.due("may be undone", x.count(3), done.size());
            }
        }
    }

    private static void undoOrRedo(OtherSide x, boolean undo, ArrayList<int[]> done, ArrayList<int[]> undone) {
        ArrayList<int[]> from = undo ? done : undone;
        int left = from.size() - 1;
        Check.due(undo ? "undo" : "redo", undo ? x.undo() : x.redo(), left < 0 ? OtherSide.STATE : left);
        if (left >= 0) {
            int[] change = from.remove(left);
            (undo ? undone : done).add(change);
            Check.due("then", x.of(change[0], change[1]), change[undo ? 2 : 3]);
        }
    }

    private static void oneMend(OtherSide x, Random random, ArrayList<int[]> done, ArrayList<int[]> undone) {
        int number = random.nextInt(2);
        int what = random.nextInt(9);
        int v = random.nextInt(3);
        int was = x.of(number, what);
        Check.due("mend", x.mend(number, what, v), was);
        Check.due("mended", x.of(number, what), v);
        if (was != v) {
            done.add(new int[] {number, what, was, v});
            undone.clear();
            if (done.size() > 40) {
                done.remove(0);
            }
        }
    }

    private static void undoneBehindDeeds() {
        OtherSide x = new OtherSide();
        x.card(113);
        x.mend(0, 0, 5);
        x.draw(1);
        Check.due("undo", x.undo(), 0);
        Check.due("as it was", x.of(0, 0), 3);
        Check.due("still aside", x.of(0, 12), 1);
        Check.due("redo", x.redo(), 0);
        Check.due("becomes what it became", x.of(0, 0), 5);
    }
}
