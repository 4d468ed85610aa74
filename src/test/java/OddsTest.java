import java.util.Random;

/** Promises 15 to 21: handed, ill, order, isSo, tooMany, next, sure. */
public final class OddsTest {
    private static final long NONE = Long.MIN_VALUE;
    private static final int[] PARTS = {-1, 2, Integer.MIN_VALUE, Integer.MAX_VALUE};

    public static void main(String[] args) {
        refusals();
        told();
        edges();
        bets();
        Random random = new Random(4);
        for (int run = 0; run < 300; run++) {
            OtherSide x = mended(random, run % 3);
            int[][] is = values(x);
            handed(x, is);
            ill(x, is, random);
            order(x, is);
            witnesses(x, is, random);
            sure(x, is);
        }
        next();
        Check.end("OddsTest");
    }

    private static void due(String what, long above, long below, Ratio want) {
        Check.due(what + " above", above, want.part(0));
        Check.due(what + " below", below, want.part(1));
    }

    private static void refusals() {
        OtherSide x = new OtherSide();
        for (int part : PARTS) {
            Check.due("handed part", x.handed(1, 0, part), NONE);
            Check.due("ill part", x.ill(0, part), NONE);
            Check.due("order part", x.order(-1, part), NONE);
            Check.due("order k part", x.order(2, part), NONE);
            Check.due("isSo part", x.isSo(0, part), NONE);
            Check.due("tooMany part", x.tooMany(0, part), NONE);
            Check.due("next part", x.next(0, part), NONE);
        }
        int[] far = {Integer.MIN_VALUE, Integer.MAX_VALUE, -5};
        for (int f : far) {
            Check.due("handed u", x.handed(f, 0, 0), NONE);
            Check.due("handed what", x.handed(1, f, 0), NONE);
            Check.due("ill told", x.ill(f, 0), NONE);
            Check.due("order k", x.order(f, 0), NONE);
            Check.due("isSo told", x.isSo(f, 0), NONE);
            Check.due("tooMany told", x.tooMany(f, 0), NONE);
            Check.due("next rn", x.next(f, 0), NONE);
            Check.due("sure k", x.sure(f), OtherSide.VOID);
        }
        Check.due("handed 0", x.handed(0, 0, 0), NONE);
        Check.due("handed 4", x.handed(4, 0, 0), NONE);
        Check.due("handed what 2", x.handed(1, 2, 0), NONE);
        Check.due("order -2", x.order(-2, 0), NONE);
        Check.due("order 4", x.order(4, 0), NONE);
        Check.due("tooMany 64", x.tooMany(64, 0), NONE);
        Check.due("sure -2", x.sure(-2), OtherSide.VOID);
        Check.due("sure 3", x.sure(3), OtherSide.VOID);
    }

    private static void told() {
        for (int t = -3; t < 300; t++) {
            boolean good = t >= 0 && t < 256 && (t / 16 & ~(t % 16)) == 0;
            Check.so("ill told " + t, good == (new OtherSide().ill(t, 0) != NONE));
        }
        for (int t = -3; t < 4200; t++) {
            boolean good = t >= 0 && t < 4096 && (t / 64 & ~(t % 64)) == 0;
            Check.so("isSo told " + t, good == (new OtherSide().isSo(t, 0) != NONE));
        }
    }

    private static void edges() {
        OtherSide x = new OtherSide();
        due("handed at first", x.handed(3, 0, 0), x.handed(3, 0, 1), Ratio.of(1, 2));
        x.mend(0, 3, 0);
        x.mend(0, 4, 0);
        for (int what = 0; what < 2; what++) {
            due("an empty urn", x.handed(1, what, 0), x.handed(1, what, 1), Ratio.ZERO);
        }
        x.mend(0, 4, 1);
        x.mend(1, 3, 0);
        x.mend(1, 4, 0);
        due("only white", x.handed(1, 0, 0), x.handed(1, 0, 1), Ratio.ZERO);
        due("red last cannot be", x.handed(1, 1, 0), x.handed(1, 1, 1), Ratio.ZERO);
        x.mend(0, 3, 2);
        due("an empty urn gets a ball", x.handed(1, 1, 0), x.handed(1, 1, 1), Ratio.ONE);
        due("of no test", x.ill(0, 0), x.ill(0, 1), Ratio.of(1, 10));
        x.mend(0, 6, 12);
        due("never wrong for the well", x.ill(17, 0), x.ill(17, 1), Ratio.ONE);
        x.mend(0, 5, 0);
        due("cannot be", x.ill(17, 0), x.ill(17, 1), Ratio.ZERO);
        due("of no witness", x.isSo(0, 0), x.isSo(0, 1), Ratio.of(1, 6));
        due("none says", x.tooMany(0, 0), x.tooMany(0, 1), Ratio.ONE);
        due("one says", x.tooMany(32, 0), x.tooMany(32, 1), Ratio.ONE);
        x.mend(0, 8, 0);
        x.mend(5, 8, 12);
        due("who always lies, who never lies", x.tooMany(33, 0), x.tooMany(33, 1), Ratio.ZERO);
        due("both say so", x.isSo(33 * 64 + 33, 0), x.isSo(33 * 64 + 33, 1), Ratio.ZERO);
    }

    private static void bets() {
        OtherSide x = new OtherSide();
        Check.due("fair", x.sure(-1), OtherSide.NOT);
        for (int k = 0; k < 3; k++) {
            Check.due("no stake", x.sure(k), 0);
        }
        x.mend(1, 11, 3);
        Check.due("one too low", x.sure(-1), 5);
        Check.due("stake", x.sure(0), 5);
        x.mend(1, 11, 12);
        Check.due("too high", x.sure(-1), 40);
        Check.due("stake", x.sure(2), -5);
        x.mend(1, 11, 4);
        for (int k = 0; k < 3; k++) {
            Check.due("no stake any more", x.sure(k), 0);
        }
        Check.due("fair again", x.sure(-1), OtherSide.NOT);
    }

    private static OtherSide mended(Random random, int how) {
        OtherSide x = new OtherSide();
        int[] numbers = {0, 0, 0, 4, 4, 4, 4, 4, 6, 1, 1, 3};
        int[] most = {0, 0, 0, 9, 9, 12, 12, 99, 12, 99, 12, 12};
        for (int what = 3; what < 12; what++) {
            for (int number = 0; number < numbers[what]; number++) {
                int v = random.nextInt(most[what] + 1);
                if (how == 1 && random.nextInt(3) == 0) {
                    v = random.nextBoolean() ? 0 : most[what];
                }
                if (how == 0 || random.nextBoolean()) {
                    x.mend(number, what, v);
                }
            }
        }
        return x;
    }

    /** What each of mend() is, by what and number: asked once, for an object has but 512 calls. */
    private static int[][] values(OtherSide x) {
        int[] numbers = {0, 0, 0, 4, 4, 4, 4, 4, 6, 1, 1, 3};
        int[][] is = new int[12][];
        for (int what = 0; what < 12; what++) {
            is[what] = new int[numbers[what]];
            for (int number = 0; number < numbers[what]; number++) {
                is[what][number] = x.of(number, what);
            }
        }
        return is;
    }

    // All ways of balls, each ball by itself.
    private static Ratio handedOn(int[][] is, int at, int u, boolean cameRed, boolean first, boolean onlyFirstRed) {
        int red = is[3][at] + (at > 0 && cameRed ? 1 : 0);
        int white = is[4][at] + (at > 0 && !cameRed ? 1 : 0);
        if (red + white == 0) {
            return Ratio.ZERO;
        }
        Ratio sum = Ratio.ZERO;
        for (int ball = 0; ball < red + white; ball++) {
            boolean isRed = ball < red;
            boolean firstRed = at == 0 ? isRed : first;
            Ratio rest;
            if (at == u) {
                rest = isRed && (firstRed || !onlyFirstRed) ? Ratio.ONE : Ratio.ZERO;
            } else {
                rest = handedOn(is, at + 1, u, isRed, firstRed, onlyFirstRed);
            }
            sum = sum.plus(rest.times(Ratio.of(1, red + white)));
        }
        return sum;
    }

    private static void handed(OtherSide x, int[][] is) {
        for (int u = 1; u <= 2; u++) {
            Ratio last = handedOn(is, 0, u, false, false, false);
            due("handed", x.handed(u, 0, 0), x.handed(u, 0, 1), last);
            Ratio both = handedOn(is, 0, u, false, false, true);
            due("handed, the first", x.handed(u, 1, 0), x.handed(u, 1, 1), both.by(last));
        }
        if (is[3][0] + is[3][1] + is[3][2] < 6) {
            Ratio last = handedOn(is, 0, 3, false, false, false);
            due("handed to 3", x.handed(3, 0, 0), x.handed(3, 0, 1), last);
            Ratio both = handedOn(is, 0, 3, false, false, true);
            due("handed to 3, the first", x.handed(3, 1, 0), x.handed(3, 1, 1), both.by(last));
        }
    }

    private static void ill(OtherSide x, int[][] is, Random random) {
        int all = random.nextInt(16);
        int say = random.nextInt(16) & all;
        Ratio ill = Ratio.of(is[9][0], 100);
        Ratio well = Ratio.of(100 - is[9][0], 100);
        for (int i = 0; i < 4; i++) {
            if ((all & 1 << i) != 0) {
                boolean says = (say & 1 << i) != 0;
                ill = ill.times(Ratio.of(says ? is[5][i] : 12 - is[5][i], 12));
                well = well.times(Ratio.of(says ? 12 - is[6][i] : is[6][i], 12));
            }
        }
        due("ill", x.ill(16 * say + all, 0), x.ill(16 * say + all, 1), ill.by(ill.plus(well)));
    }

    private static void order(OtherSide x, int[][] is) {
        Ratio least = null;
        int[] best = null;
        for (int n = 0; n < 10000; n++) {
            int[] order = {n / 1000, n / 100 % 10, n / 10 % 10, n % 10};
            int seen = 0;
            for (int t : order) {
                seen |= 1 << t;
            }
            if (seen == 15) {
                Ratio mean = mean(is, order);
                if (least == null || mean.compare(least) < 0) {
                    least = mean;
                    best = order;
                }
            }
        }
        due("order", x.order(-1, 0), x.order(-1, 1), least);
        for (int k = 0; k < 4; k++) {
            Check.due("order " + k, x.order(k, 0), best[k]);
            Check.due("order all the same " + k, x.order(k, 1), best[k]);
        }
    }

    private static Ratio mean(int[][] is, int[] order) {
        Ratio ill = Ratio.of(is[9][0], 100);
        Ratio well = Ratio.of(100 - is[9][0], 100);
        Ratio mean = Ratio.ZERO;
        for (int t : order) {
            mean = mean.plus(ill.plus(well).times(Ratio.of(is[7][t], 1)));
            ill = ill.times(Ratio.of(is[5][t], 12));
            well = well.times(Ratio.of(12 - is[6][t], 12));
        }
        return mean;
    }

    private static void witnesses(OtherSide x, int[][] is, Random random) {
        int all = random.nextInt(64);
        int say = random.nextInt(64) & all;
        Ratio so = Ratio.of(is[10][0], 12);
        Ratio not = Ratio.of(12 - is[10][0], 12);
        Ratio allRight = Ratio.ONE;
        Ratio lies = Ratio.ONE;
        for (int i = 0; i < 6; i++) {
            if ((all & 1 << i) != 0) {
                Ratio lie = Ratio.of(is[8][i], 12);
                Ratio right = Ratio.of(12 - is[8][i], 12);
                boolean says = (say & 1 << i) != 0;
                so = so.times(says ? right : lie);
                not = not.times(says ? lie : right);
                allRight = allRight.times(right);
                lies = lies.times(lie);
            }
        }
        due("isSo", x.isSo(64 * say + all, 0), x.isSo(64 * say + all, 1), so.by(so.plus(not)));
        Ratio same = all == 0 ? Ratio.ONE : allRight.plus(lies);
        due("tooMany", x.tooMany(all, 0), x.tooMany(all, 1), same);
    }

    private static void sure(OtherSide x, int[][] is) {
        int most = 0;
        int[] stakes = {0, 0, 0};
        for (int i = 0; i < 1331; i++) {
            int[] s = {i / 121 - 5, i / 11 % 11 - 5, i % 11 - 5};
            int least = Integer.MAX_VALUE;
            for (int outcome = 0; outcome < 3; outcome++) {
                int loses = 12 * s[outcome];
                for (int k = 0; k < 3; k++) {
                    loses -= s[k] * is[11][k];
                }
                least = Math.min(least, loses);
            }
            if (least > most) {
                most = least;
                stakes = s;
            }
        }
        Check.due("sure", x.sure(-1), most > 0 ? most : OtherSide.NOT);
        for (int k = 0; k < 3; k++) {
            Check.due("stake " + k, x.sure(k), stakes[k]);
        }
    }

    private static void next() {
        for (int rn = -2; rn < 10100; rn++) {
            OtherSide x = new OtherSide();
            boolean good = rn >= 0 && rn < 10000 && rn / 100 <= rn % 100;
            Ratio due = Ratio.of(rn / 100 + 1, rn % 100 + 2);
            Check.due("next " + rn, x.next(rn, 0), good ? due.part(0) : NONE);
            Check.due("next below " + rn, x.next(rn, 1), good ? due.part(1) : NONE);
        }
    }
}
