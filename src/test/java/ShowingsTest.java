import java.util.Random;

/** Promises 9 to 14: shown, other, which, again, cheated, judge. */
public final class ShowingsTest {
    private static final long NONE = Long.MIN_VALUE;
    private static final String[] LAWS = {"", "s+1", "3*s", "a", "a<b", "m", "3-m", "n", "m%3;", "a=1?3;s",
        "a+b-n", "m>2?s;1", "!s", "m=10?0-s+1;2"};

    public static void main(String[] args) {
        threeCards();
        refusals();
        rowRefusals();
        cheatedEdges();
        judgeEdges();
        lawCountsTheOneMore();
        lawCountsTheTenth();
        eachByTheLatestLaw();
        randomHats();
        fullHats();
        Check.end("ShowingsTest");
    }

    private static void due(String what, long above, long below, Ratio want) {
        Check.due(what + " above", above, want.part(0));
        Check.due(what + " below", below, want.part(1));
    }

    private static void threeCards() {
        OtherSide x = new OtherSide();
        x.card(1);
        x.card(111);
        x.card(11);
        due("shown", x.shown(0, 0), x.shown(0, 1), Ratio.of(1, 2));
        due("the other side", x.other(0, 0), x.other(0, 1), Ratio.of(2, 3));
        due("which", x.which(0, 1, 0), x.which(0, 1, 1), Ratio.of(2, 3));
        due("again", x.again(1, 0), x.again(1, 1), Ratio.of(5, 6));
        Check.law(x, "s=0");
        due("only first sides: shown", x.shown(0, 0), x.shown(0, 1), Ratio.of(2, 3));
        due("only first sides: other", x.other(0, 0), x.other(0, 1), Ratio.of(1, 2));
        due("never shown", x.other(11, 0), x.other(11, 1), Ratio.of(1, 1));
        due("cannot be", x.other(20, 0), x.other(20, 1), Ratio.ZERO);
        due("cannot be", x.which(0, 21, 0), x.which(0, 21, 1), Ratio.ZERO);
        due("cannot be", x.again(21, 0), x.again(21, 1), Ratio.ZERO);
    }

    private static void refusals() {
        OtherSide x = new OtherSide();
        x.card(11);
        int[] parts = {-1, 2, 100, Integer.MIN_VALUE, Integer.MAX_VALUE};
        for (int part : parts) {
            Check.due("shown part", x.shown(0, part), NONE);
            Check.due("other part", x.other(0, part), NONE);
            Check.due("which part", x.which(0, 1, part), NONE);
            Check.due("again part", x.again(1, part), NONE);
        }
        int[] colours = {-1, 6, 255, Integer.MIN_VALUE, Integer.MAX_VALUE};
        for (int c : colours) {
            Check.due("shown " + c, x.shown(c, 0), NONE);
        }
        int[] pairs = {-1, -10, 6, 9, 16, 56, 60, 100, Integer.MIN_VALUE, Integer.MAX_VALUE};
        for (int cd : pairs) {
            Check.due("other " + cd, x.other(cd, 0), NONE);
        }
        int[] times = {-1, 0, 5, 9, 10, 15, 50, 55, 60, 61, 101, Integer.MIN_VALUE, Integer.MAX_VALUE};
        for (int ck : times) {
            Check.due("which " + ck, x.which(0, ck, 0), NONE);
            Check.due("again " + ck, x.again(ck, 0), NONE);
        }
        int[] cards = {-1, 1, 7, 8, Integer.MIN_VALUE, Integer.MAX_VALUE};
        for (int n : cards) {
            Check.due("which card " + n, x.which(n, 1, 0), NONE);
        }
        Check.due("54", x.again(54, 1), 1);
    }

    private static void rowRefusals() {
        OtherSide x = new OtherSide();
        x.card(1);
        int[] shelves = {-1, 6, Integer.MIN_VALUE, Integer.MAX_VALUE};
        for (int shelf : shelves) {
            Check.due("cheated shelf", x.cheated(shelf), OtherSide.BAD);
            Check.due("judge shelf", x.judge(shelf), OtherSide.BAD);
        }
        Check.due("cheated nothing", x.cheated(0), -11);
        Check.due("judge nothing", x.judge(0), -11);
        for (int sort = 1; sort < 5; sort++) {
            x.row(0, sort, 2);
            Check.due("cheated sort", x.cheated(0), -12);
            Check.due("judge sort", x.judge(0), -12);
            x.row(0, sort, 5);
            Check.due("cheated long sort", x.cheated(0), -12);
        }
        x.body(0);
        x.keep(0, 0);
        Check.due("cheated body", x.cheated(0), -12);
        Check.due("judge body", x.judge(0), -12);
    }

    private static void cheatedEdges() {
        OtherSide x = new OtherSide();
        Check.bytes(x, 0);
        Check.due("no cards, none shown", x.cheated(0), OtherSide.NOT);
        Check.bytes(x, 0, 1);
        Check.due("no cards", x.cheated(0), OtherSide.NOT);
        x.card(110);
        x.card(110);
        Check.due("the least number of like ones", x.cheated(0), 0);
        x.mend(0, 0, 4);
        Check.due("as likely as it is", x.cheated(0), OtherSide.NOT);
        x.card(9);
        Check.due("of the right colour", x.cheated(0), 0);
        Check.bytes(x, 0, 1, 0, 1);
        Check.due("two of three", x.cheated(0), 0);
        Check.bytes(x, 0, 2);
        Check.due("of no card", x.cheated(0), OtherSide.NOT);
        Check.bytes(x, 0);
        Check.due("none shown", x.cheated(0), OtherSide.NOT);
        Check.bytes(x, 0, 1, 1, 1, 1);
        Check.due("four", x.cheated(0), OtherSide.BAD);
        Check.bytes(x, 0, 1, 6, 1);
        Check.due("6", x.cheated(0), OtherSide.BAD);
        Check.bytes(x, 0, 1, 1, -1);
        Check.due("-1", x.cheated(0), OtherSide.BAD);
        Check.bytes(x, 0, 6);
        Check.due("only 6", x.cheated(0), OtherSide.BAD);
        Check.due("nothing came in", x.of(0, 15), 13);
        x.mend(0, 0, 9);
        x.mend(2, 0, 1);
        Check.bytes(x, 0, 1);
        Check.due("one more than nine", x.cheated(0), 0);
    }

    private static void judgeEdges() {
        OtherSide x = new OtherSide();
        Check.bytes(x, 0);
        Check.due("nothing shown", x.judge(0), OtherSide.NOT);
        Check.bytes(x, 0, 0);
        Check.due("an empty hat", x.judge(0), 0);
        x.card(11);
        x.card(220);
        Check.bytes(x, 0, 0, 1, 0, 1, 2, 6);
        Check.due("none of these in the hat", x.judge(0), 4);
        x.mend(1, 0, 1);
        Check.due("no colour", x.judge(0), 5);
        x.put(0, 5, 2);
        Check.due("all can be", x.judge(0), OtherSide.NOT);
        Check.law(x, "s");
        Check.due("a weight of 0", x.judge(0), 0);
        x.row(1, 0, 60);
        x.put(1, 59, -128);
        Check.law(x, "1");
        Check.due("the last of sixty", x.judge(1), 59);
    }

    private static void lawCountsTheOneMore() {
        OtherSide x = new OtherSide();
        x.card(12);
        x.card(559);
        Check.law(x, "m=2?s;m=3?!s;1");
        Check.bytes(x, 0, 0);
        Check.due("with three of it the first side is shown", x.cheated(0), 0);
        Check.bytes(x, 0, 1);
        Check.due("and the second no more", x.cheated(0), OtherSide.NOT);
        Check.due("the weights are as before", x.weight(0, 1), 1);
        due("the chances too", x.shown(1, 0), x.shown(1, 1), Ratio.of(2, 11));
    }

    private static void lawCountsTheTenth() {
        OtherSide x = new OtherSide();
        x.card(19);
        x.card(228);
        Check.law(x, "m=10?s;1");
        Check.bytes(x, 0, 1);
        Check.due("with ten of it the second side is shown", x.cheated(0), 0);
        Check.bytes(x, 0, 0);
        Check.due("and the first no more", x.cheated(0), OtherSide.NOT);
    }

    // Each is asked first behind a law, so that none goes by weights of before.
    private static void eachByTheLatestLaw() {
        OtherSide x = new OtherSide();
        x.card(12);
        x.card(111);
        Check.bytes(x, 0, 0);
        for (int turn = 0; turn < 2; turn++) {
            Check.law(x, "s=0");
            due("other", x.other(1, 0), x.other(1, 1), Ratio.ONE);
            Check.law(x, "s");
            due("no other", x.other(1, 0), x.other(1, 1), Ratio.ZERO);
            Check.law(x, "s=0");
            due("which", x.which(0, 1, 0), x.which(0, 1, 1), Ratio.ONE);
            Check.law(x, "s");
            due("not which", x.which(0, 1, 0), x.which(0, 1, 1), Ratio.ZERO);
            Check.law(x, "s=0");
            due("again", x.again(1, 0), x.again(1, 1), Ratio.ONE);
            Check.law(x, "s");
            due("not again", x.again(1, 0), x.again(1, 1), Ratio.ZERO);
            Check.law(x, "s=0");
            Check.due("cheated", x.cheated(0), 0);
            Check.law(x, "s");
            Check.due("not cheated", x.cheated(0), OtherSide.NOT);
            Check.law(x, "s=0");
            Check.due("judge", x.judge(0), OtherSide.NOT);
            Check.law(x, "s");
            Check.due("judge cannot be", x.judge(0), 0);
            Check.law(x, "s=0");
            due("shown", x.shown(0, 0), x.shown(0, 1), Ratio.of(2, 3));
            Check.due("drawn", x.drawn(1, 60, 0) + x.drawn(1, 60, 100), 60);
            Check.law(x, "s");
            Check.due("drawn", x.drawn(1, 60, 0), 0);
            x.mend(1, 0, 0);
            Check.law(x, "s=0");
            Check.due("as likely as can be", x.cheated(0), OtherSide.NOT);
            Check.due("draw", x.draw(1), 1);
            Check.law(x, "s");
            Check.due("draw", x.draw(1), 10);
            x.putBack();
            x.undo();
        }
    }

    private static void randomHats() {
        Random random = new Random(3);
        for (int run = 0; run < 400; run++) {
            OtherSide x = new OtherSide();
            int cards = random.nextInt(9);
            for (int i = 0; i < cards; i++) {
                x.card(random.nextInt(3) * 100 + random.nextInt(3) * 10 + random.nextInt(run % 3 == 0 ? 2 : 9));
            }
            String law = LAWS[random.nextInt(LAWS.length)];
            Check.law(x, law);
            all(x, cards, random);
        }
    }

    private static void all(OtherSide x, int cards, Random random) {
        Hat hat = new Hat(x);
        int c = random.nextInt(4);
        int d = random.nextInt(4);
        int k = 1 + random.nextInt(4);
        Ratio shown = hat.likely(c, 1);
        due("shown", x.shown(c, 0), x.shown(c, 1), shown);
        due("other", x.other(10 * c + d, 0), x.other(10 * c + d, 1), hat.both(c, d).by(shown));
        Ratio times = hat.likely(c, k);
        due("again", x.again(10 * c + k, 0), x.again(10 * c + k, 1), hat.likely(c, k + 1).by(times));
        for (int n = 0; n < cards; n++) {
            Ratio of = hat.of(n, c, k).by(times);
            due("which", x.which(n, 10 * c + k, 0), x.which(n, 10 * c + k, 1), of);
        }
        int[] row = new int[random.nextInt(4)];
        int impossible = OtherSide.NOT;
        for (int i = row.length - 1; i >= 0; i--) {
            row[i] = random.nextInt(3);
            impossible = x.shown(row[i], 0) == 0 ? i : impossible;
        }
        Check.bytes(x, 0, row);
        Check.due("judge", x.judge(0), impossible);
        Check.due("cheated", x.cheated(0), cheated(x, hat, row));
    }

    /** A hat by what its object tells, asked once: an object has but 512 calls. */
    private static final class Hat {
        final int[] many;
        final int[][] sides;
        final int[][] weights;

        Hat(OtherSide x) {
            many = new int[x.count(0)];
            sides = new int[many.length][];
            weights = new int[many.length][];
            for (int i = 0; i < many.length; i++) {
                many[i] = x.of(i, 0);
                sides[i] = new int[] {x.of(i, 1), x.of(i, 2)};
            }
            weigh(x);
        }

        void weigh(OtherSide x) {
            for (int i = 0; i < many.length; i++) {
                weights[i] = new int[] {x.weight(i, 0), x.weight(i, 1)};
            }
        }

        Ratio side(int card, int side) {
            return Ratio.of(weights[card][side], weights[card][0] + weights[card][1]);
        }

        Ratio drawn(int card) {
            int all = 0;
            for (int m : many) {
                all += m;
            }
            return Ratio.of(many[card], all);
        }

        Ratio of(int card, int c, int k) {
            Ratio once = Ratio.ZERO;
            for (int side = 0; side < 2; side++) {
                if (sides[card][side] == c) {
                    once = once.plus(side(card, side));
                }
            }
            Ratio r = drawn(card);
            for (int i = 0; i < k; i++) {
                r = r.times(once);
            }
            return r;
        }

        Ratio likely(int c, int k) {
            Ratio r = Ratio.ZERO;
            for (int i = 0; i < many.length; i++) {
                r = r.plus(of(i, c, k));
            }
            return r;
        }

        Ratio both(int c, int d) {
            Ratio r = Ratio.ZERO;
            for (int i = 0; i < many.length; i++) {
                for (int side = 0; side < 2; side++) {
                    if (sides[i][side] == c && sides[i][1 - side] == d) {
                        r = r.plus(drawn(i).times(side(i, side)));
                    }
                }
            }
            return r;
        }

        Ratio product(int[] row) {
            Ratio r = Ratio.ONE;
            for (int c : row) {
                r = r.times(likely(c, 1));
            }
            return r;
        }
    }

    private static int cheated(OtherSide x, Hat hat, int[] row) {
        Ratio most = hat.product(row);
        int best = OtherSide.NOT;
        for (int i = 0; i < hat.many.length; i++) {
            if (hat.many[i] < 9) {
                // One more in deed, so that the law sees it.
                x.mend(i, 0, hat.many[i] + 1);
            }
            hat.weigh(x);
            hat.many[i]++;
            Ratio r = hat.product(row);
            hat.many[i]--;
            x.mend(i, 0, hat.many[i]);
            if (r.compare(most) > 0) {
                most = r;
                best = i;
            }
        }
        hat.weigh(x);
        return best;
    }

    // Nine of each card, the most there can be: all drawn, mended and put back, they are no more.
    private static void fullHats() {
        Random random = new Random(17);
        for (int run = 0; run < 60; run++) {
            OtherSide x = new OtherSide();
            for (int i = 0; i < 8; i++) {
                x.card(random.nextInt(3) * 100 + random.nextInt(3) * 10 + 9);
            }
            if (run % 2 == 0) {
                while (x.of(0, 15) > 0) {
                    x.draw(run);
                }
                for (int i = 0; i < 8; i++) {
                    x.mend(i, 0, random.nextInt(10));
                }
                Check.due("all put back", x.putBack(), 72);
            }
            Check.law(x, run % 3 == 0 ? "" : "a+1;s");
            Hat hat = new Hat(x);
            for (int i = 0; i < 8; i++) {
                Check.due("nine of it", hat.many[i], 9);
            }
            Check.due("all in the hat", x.of(0, 15), 72);
            int[] row = {random.nextInt(3), random.nextInt(3), random.nextInt(3)};
            Check.bytes(x, 0, row);
            Check.due("cheated of many", x.cheated(0), cheated(x, hat, row));
            due("shown of many", x.shown(0, 0), x.shown(0, 1), hat.likely(0, 1));
            due("again of many", x.again(4, 0), x.again(4, 1), hat.likely(0, 5).by(hat.likely(0, 4)));
        }
    }
}
