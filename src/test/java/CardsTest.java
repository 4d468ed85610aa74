/** Promises 1 to 5: a new object, card, cards, mend, of. */
public final class CardsTest {
    public static void main(String[] args) {
        newObject();
        card();
        cards();
        cardsEnd();
        mendRanges();
        mendOfCards();
        of();
        Check.end("CardsTest");
    }

    private static void newObject() {
        OtherSide x = new OtherSide();
        for (int what = 0; what < 6; what++) {
            Check.due("new: count " + what, x.count(what), 0);
        }
        Check.due("new: in the hat", x.of(0, 15), 0);
        Check.due("new: latest", x.of(0, 14), OtherSide.NOT);
        int[] numbers = {0, 0, 0, 4, 4, 4, 4, 4, 6, 1, 1, 3};
        int[] first = {0, 0, 0, 1, 1, 9, 9, 10, 3, 10, 2, 4};
        for (int what = 0; what < 12; what++) {
            for (int number = -1; number < 8; number++) {
                int want = number >= 0 && number < numbers[what] ? first[what] : -1;
                Check.due("new: of " + number + " " + what, x.of(number, what), want);
            }
        }
        for (int c = 0; c < 6; c++) {
            Check.due("new: led " + c, x.of(c, 13), 0);
            Check.due("new: taken " + c, x.taken(c, 0), -11);
        }
        Check.due("new: no image", x.back(), OtherSide.STATE);
    }

    private static void card() {
        OtherSide x = new OtherSide();
        int[] bad = {-1, -100, Integer.MIN_VALUE, 60, 69, 99, 160, 560, 599, 600, 1000, 10000, Integer.MAX_VALUE};
        for (int abm : bad) {
            Check.due("card " + abm, x.card(abm), OtherSide.BAD);
        }
        int[] good = {559, 0, 9, 50, 500, 123, 321, 405};
        for (int i = 0; i < good.length; i++) {
            Check.due("card " + good[i], x.card(good[i]), i);
            Check.due("MANY", x.of(i, 0), good[i] % 10);
            Check.due("first", x.of(i, 1), good[i] / 100);
            Check.due("second", x.of(i, 2), good[i] / 10 % 10);
            Check.due("aside", x.of(i, 12), 0);
        }
        Check.due("a ninth", x.card(0), OtherSide.FULL);
        Check.due("a bad ninth", x.card(600), OtherSide.BAD);
        Check.due("still eight", x.count(0), 8);
    }

    private static void cards() {
        OtherSide x = new OtherSide();
        Check.due("nothing there", x.cards(0, 0, 3), 0);
        Check.due("below 0", x.cards(0, -1, 3), 0);
        Check.bytes(x, 1, 9, 1, 2, 3, 5, 0, 9, 0, 0, 0, 4);
        Check.due("two", x.cards(1, 1, 2), 2);
        Check.due("second of the first", x.of(0, 2), 2);
        Check.due("MANY of the second", x.of(1, 0), 9);
        Check.due("to the end, within a three", x.cards(1, 4, 8), 2);
        Check.due("the last ends within a three", x.cards(1, 9, 8), 0);
        Check.due("behind the end", x.cards(1, 60, 8), 0);
        Check.due("far behind the end", x.cards(1, Integer.MAX_VALUE, 8), 0);
        Check.due("below 0", x.cards(1, -1, 8), 0);
        Check.due("far below 0", x.cards(1, Integer.MIN_VALUE, 8), 0);
        Check.due("so many", x.count(0), 4);
        int[] bad = {0, -1, 9, Integer.MAX_VALUE, Integer.MIN_VALUE};
        for (int n : bad) {
            Check.due("n " + n, x.cards(1, 0, n), OtherSide.BAD);
        }
        Check.due("shelf -1", x.cards(-1, 0, 1), OtherSide.BAD);
        Check.due("shelf 6", x.cards(6, 0, 1), OtherSide.BAD);
        x.row(2, 1, 6);
        Check.due("shorts", x.cards(2, 0, 1), -12);
        Check.due("shorts, below 0", x.cards(2, -1, 1), -12);
        Check.due("shorts, BAD is named first", x.cards(2, 0, 0), OtherSide.BAD);
        x.body(0);
        x.keep(3, 0);
        Check.due("a body", x.cards(3, 0, 1), -12);
    }

    private static void cardsEnd() {
        int[][] wrong = {{6, 0, 0}, {0, 6, 0}, {0, 0, 10}, {-1, 0, 0}, {0, -1, 0}, {0, 0, -1}};
        for (int[] w : wrong) {
            OtherSide x = new OtherSide();
            Check.bytes(x, 0, 1, 1, 1, w[0], w[1], w[2], 2, 2, 2);
            Check.due("ends at one that may not be", x.cards(0, 0, 3), 1);
            Check.due("that ahead came", x.count(0), 1);
            Check.due("none is a change", x.count(3), 0);
        }
        OtherSide y = new OtherSide();
        y.row(0, 0, 60);
        Check.due("eight", y.cards(0, 0, 8), 8);
        Check.due("FULL", y.cards(0, 0, 8), 0);
        OtherSide z = new OtherSide();
        z.row(0, 0, 60);
        Check.due("five", z.cards(0, 45, 8), 5);
        Check.due("three more fit", z.cards(0, 0, 8), 3);
        Check.due("eight in all", z.count(0), 8);
    }

    private static void mendRanges() {
        int[] numbers = {8, 8, 8, 4, 4, 4, 4, 4, 6, 1, 1, 3};
        int[] most = {9, 5, 5, 9, 9, 12, 12, 99, 12, 99, 12, 12};
        OtherSide x = eight();
        for (int what = 0; what < 12; what++) {
            for (int number = 0; number < numbers[what]; number++) {
                int was = x.of(number, what);
                Check.due("mend to -1", x.mend(number, what, -1), OtherSide.BAD);
                Check.due("mend above " + what, x.mend(number, what, most[what] + 1), OtherSide.BAD);
                Check.due("is what it was", x.of(number, what), was);
                Check.due("mend " + what, x.mend(number, what, most[what]), was);
                Check.due("mend back", x.mend(number, what, 0), most[what]);
                Check.due("is 0", x.of(number, what), 0);
            }
            Check.due("mend none " + what, x.mend(numbers[what], what, 0), OtherSide.BAD);
            Check.due("mend -1 " + what, x.mend(-1, what, 0), OtherSide.BAD);
            Check.due("mend far", x.mend(Integer.MAX_VALUE, what, 0), OtherSide.BAD);
        }
        int[] whats = {-1, 12, 13, 14, 15, Integer.MIN_VALUE, Integer.MAX_VALUE};
        for (int what : whats) {
            Check.due("mend what " + what, x.mend(0, what, 0), OtherSide.BAD);
        }
    }

    private static OtherSide eight() {
        OtherSide x = new OtherSide();
        for (int i = 0; i < 8; i++) {
            x.card(i % 6 * 110 + i);
        }
        return x;
    }

    private static void mendOfCards() {
        OtherSide x = new OtherSide();
        Check.due("no card yet", x.mend(0, 0, 1), OtherSide.BAD);
        x.card(12);
        Check.due("MANY", x.mend(0, 0, 7), 2);
        Check.due("first", x.mend(0, 1, 5), 0);
        Check.due("second", x.mend(0, 2, 4), 1);
        Check.due("in the hat", x.of(0, 15), 7);
        Check.due("shown", x.shown(5, 1), 2);
        Check.due("shown no more", x.shown(1, 0), 0);
        Check.due("card 1 is none", x.mend(1, 1, 0), OtherSide.BAD);
    }

    private static void of() {
        OtherSide x = new OtherSide();
        x.card(12);
        x.card(345);
        Check.due("all", x.of(0, 15), 7);
        int colours = x.draw(3);
        int latest = x.of(0, 14);
        Check.so("a card was drawn", latest == 0 || latest == 1);
        Check.due("laid aside", x.of(latest, 12), 1);
        Check.due("the other not", x.of(1 - latest, 12), 0);
        Check.due("MANY is less", x.of(latest, 0), (latest == 0 ? 2 : 5) - 1);
        Check.due("led", x.of(colours / 10, 13), 1);
        Check.due("all less one", x.of(0, 15), 6);
        int[][] bad = {{2, 12}, {-1, 12}, {-1, 13}, {6, 13}, {-1, 14}, {1, 14}, {-1, 15}, {1, 15}, {0, 16}, {0, -1},
            {0, Integer.MAX_VALUE}, {0, Integer.MIN_VALUE}, {Integer.MIN_VALUE, 0}, {Integer.MAX_VALUE, 13}};
        for (int[] b : bad) {
            Check.due("of " + b[0] + " " + b[1], x.of(b[0], b[1]), OtherSide.BAD);
        }
    }
}
