/** The edges that the document names of handed, ill, order, isSo, tooMany, next, sure (promises 15 to 21), sentence by sentence. */
public final class EdgesOfOddsTest {
    private static final long NONE = Long.MIN_VALUE;
    private static final int NOT = OtherSide.NOT, VOID = OtherSide.VOID;
    private static final int LEAST = Integer.MIN_VALUE, MOST = Integer.MAX_VALUE;
    private static final int RED = 3, WHITE = 4, FOR_ILL = 5, FOR_WELL = 6, PRICE = 7, LIES = 8, ILL = 9, BEFORE = 10,
        QUOTE = 11;

    public static void main(String[] args) {
        handedToOneToThree();
        theLastRed();
        theFirstByTheLast();
        fromAnEmptyUrn();
        emptyUrnsOnTheWay();
        lastOrFirst();
        handedToNone();
        toldTests();
        eachTestByItself();
        illCannotBe();
        toldTestsAsOne();
        toldTestsThatAreNone();
        stopsWhenWell();
        neverStops();
        leastOfAllOrders();
        firstOfLikeOrders();
        meanPriceOrTest();
        orderOfNone();
        toldWitnesses();
        isSoCannotBe();
        toldWitnessesAsOne();
        toldWitnessesThatAreNone();
        allSayTheSame();
        tooManyOfNone();
        cameSoOften();
        nextAsOne();
        nextOfNone();
        buysAndSellsAtQuote();
        losesTheMost();
        stakesWithinFive();
        firstOfLikeStakes();
        losesInNone();
        howMuchOrTheStake();
        sureOfNone();
        partsThatAreNone();
        Check.end("EdgesOfOddsTest");
    }

    private static void due(String call, long got, long want) {
        Check.due(call, got, want);
    }

    private static OtherSide mended(int what, int... values) {
        OtherSide x = new OtherSide();
        mend(x, what, values);
        return x;
    }

    private static void mend(OtherSide x, int what, int... values) {
        for (int i = 0; i < values.length; i++) {
            x.mend(i, what, values[i]);
        }
    }

    private static void handed(OtherSide x, int u, int what, long above, long below) {
        Check.chance("handed(" + u + ", " + what + ")", x.handed(u, what, 0), x.handed(u, what, 1), above, below);
    }

    private static void ill(OtherSide x, int told, long above, long below) {
        Check.chance("ill(" + told + ")", x.ill(told, 0), x.ill(told, 1), above, below);
    }

    private static void order(OtherSide x, long above, long below, int... tests) {
        Check.chance("order(-1)", x.order(-1, 0), x.order(-1, 1), above, below);
        for (int k = 0; k < tests.length; k++) {
            due("order(" + k + ", 0)", x.order(k, 0), tests[k]);
            due("order(" + k + ", 1)", x.order(k, 1), tests[k]);
        }
    }

    private static void isSo(OtherSide x, int told, long above, long below) {
        Check.chance("isSo(" + told + ")", x.isSo(told, 0), x.isSo(told, 1), above, below);
    }

    private static void tooMany(OtherSide x, int told, long above, long below) {
        Check.chance("tooMany(" + told + ")", x.tooMany(told, 0), x.tooMany(told, 1), above, below);
    }

    private static void next(OtherSide x, int rn, long above, long below) {
        Check.chance("next(" + rn + ")", x.next(rn, 0), x.next(rn, 1), above, below);
    }

    private static void sure(OtherSide x, int loss, int first, int second, int third) {
        due("sure(-1)", x.sure(-1), loss);
        due("sure(0)", x.sure(0), first);
        due("sure(1)", x.sure(1), second);
        due("sure(2)", x.sure(2), third);
    }

    // ---- promise 15

    private static void handedToOneToThree() {
        Check.says(0, "HANDED ON: one ball is drawn from URN 0, put into URN 1, one from this into URN 2, and so on "
            + "to URN u (1 .. 3), one is drawn from it:");
        OtherSide x = mended(RED, 1, 0, 0, 0);
        handed(x, 1, 0, 1, 4);
        handed(x, 2, 0, 1, 8);
        handed(x, 3, 0, 1, 16);
        due("to the first", x.handed(0, 0, 0), NONE);
        due("to a fifth", x.handed(4, 0, 0), NONE);
        mend(x, RED, 1, 0, 0, 9);
        mend(x, WHITE, 1, 1, 1, 0);
        handed(x, 2, 0, 1, 8);
        handed(x, 3, 0, 73, 80);
    }

    private static void theLastRed() {
        Check.says(0, "how likely that is RED;");
        OtherSide x = mended(RED, 9, 9, 9, 9);
        mend(x, WHITE, 9, 9, 9, 9);
        for (int u = 1; u <= 3; u++) {
            handed(x, u, 0, 1, 2);
        }
        mend(x, WHITE, 0, 0, 0, 0);
        for (int u = 1; u <= 3; u++) {
            handed(x, u, 0, 1, 1);
            handed(x, u, 1, 1, 1);
        }
        mend(x, RED, 0, 0, 0, 0);
        mend(x, WHITE, 9, 9, 9, 9);
        for (int u = 1; u <= 3; u++) {
            handed(x, u, 0, 0, 1);
        }
    }

    private static void theFirstByTheLast() {
        Check.says(0, "how likely the first one was RED, the last one being RED");
        OtherSide x = new OtherSide();
        handed(x, 1, 1, 2, 3);
        handed(x, 2, 1, 5, 9);
        handed(x, 3, 1, 14, 27);
        x.mend(0, RED, 0);
        handed(x, 3, 1, 0, 1);
        x.mend(0, RED, 9);
        x.mend(0, WHITE, 0);
        handed(x, 3, 1, 1, 1);
        OtherSide never = mended(RED, 0, 0, 0, 0);
        handed(never, 1, 1, 0, 1);
        handed(never, 3, 1, 0, 1);
    }

    private static void fromAnEmptyUrn() {
        Check.says(0, "(0 by 1, if a ball is wanted from an empty URN).");
        OtherSide x = new OtherSide();
        x.mend(0, RED, 0);
        x.mend(0, WHITE, 0);
        for (int u = 1; u <= 3; u++) {
            handed(x, u, 0, 0, 1);
            handed(x, u, 1, 0, 1);
        }
    }

    private static void emptyUrnsOnTheWay() {
        Check.says(0, "(0 by 1, if a ball is wanted from an empty URN).");
        OtherSide x = mended(RED, 1, 0, 0, 0);
        mend(x, WHITE, 2, 0, 0, 0);
        for (int u = 1; u <= 3; u++) {
            handed(x, u, 0, 1, 3);
            handed(x, u, 1, 1, 1);
        }
        mend(x, RED, 1, 9, 0, 0);
        mend(x, WHITE, 0, 9, 0, 9);
        handed(x, 1, 0, 10, 19);
        handed(x, 2, 0, 10, 19);
        handed(x, 3, 0, 1, 19);
    }

    private static void lastOrFirst() {
        Check.says(15, "HANDED ON to URN u: the last (what 0), the first by the last (1).");
        OtherSide x = mended(RED, 3, 0);
        mend(x, WHITE, 1, 1);
        handed(x, 1, 0, 3, 8);
        handed(x, 1, 1, 1, 1);
        x.mend(1, RED, 1);
        handed(x, 1, 0, 7, 12);
        handed(x, 1, 1, 6, 7);
        due("what 2", x.handed(1, 2, 0), NONE);
        due("what -1", x.handed(1, -1, 0), NONE);
    }

    private static void handedToNone() {
        Check.says(15, "HANDED ON to URN u: the last (what 0), the first by the last (1).");
        OtherSide x = new OtherSide();
        int[] none = {LEAST, -1, 0, 4, 5, MOST};
        for (int u : none) {
            for (int part = 0; part < 2; part++) {
                due("handed(" + u + ", 0)", x.handed(u, 0, part), NONE);
                due("handed(" + u + ", 1)", x.handed(u, 1, part), NONE);
            }
        }
        int[] whats = {LEAST, -1, 2, 3, MOST};
        for (int what : whats) {
            due("what " + what, x.handed(3, what, 0), NONE);
        }
    }

    // ---- promise 16

    private static void toldTests() {
        Check.says(0, "ILL AFTER: told TESTS (bits) of which told ones (bits) say ill, the others well,");
        OtherSide x = new OtherSide();
        ill(x, 0, 1, 10);
        for (int test = 0; test < 4; test++) {
            int told = 1 << test;
            ill(x, told, 1, 28);
            ill(x, 17 * told, 1, 4);
        }
        ill(x, 15, 1, 730);
        ill(x, 255, 9, 10);
        ill(x, 16 * 1 + 3, 1, 10);
        ill(x, 16 * 8 + 12, 1, 10);
    }

    private static void eachTestByItself() {
        Check.says(0, "each by itself: how likely one is ILL.");
        OtherSide x = mended(FOR_ILL, 12, 6, 0, 12);
        mend(x, FOR_WELL, 6, 12, 6, 12);
        x.mend(0, ILL, 50);
        ill(x, 17 * 1, 2, 3);
        ill(x, 1, 0, 1);
        ill(x, 17 * 2, 1, 1);
        ill(x, 2, 1, 3);
        ill(x, 17 * 4, 0, 1);
        ill(x, 4, 2, 3);
        ill(x, 17 * 8, 1, 1);
        ill(x, 8, 0, 1);
        ill(x, 16 * 1 + 3, 1, 2);
    }

    private static void illCannotBe() {
        Check.says(0, "0 by 1, too, if what is known cannot be).");
        OtherSide x = mended(FOR_ILL, 0, 12);
        mend(x, FOR_WELL, 12, 12);
        ill(x, 17, 0, 1);
        ill(x, 16 * 2 + 3, 1, 1);
        ill(x, 16 * 3 + 3, 0, 1);
        ill(x, 3, 0, 1);
        x.mend(0, ILL, 0);
        ill(x, 16 * 2 + 2, 0, 1);
        ill(x, 0, 0, 1);
    }

    private static void toldTestsAsOne() {
        Check.says(16, "ILL AFTER (told: 16 times those that say ill, and all told ones; those are among these).");
        OtherSide x = new OtherSide();
        for (int say = 0; say < 17; say++) {
            for (int all = 0; all < 16; all++) {
                boolean among = say < 16 && (say & ~all) == 0;
                due("ill(" + (16 * say + all) + ") is none", x.ill(16 * say + all, 0) == NONE ? 1 : 0, among ? 0 : 1);
            }
        }
    }

    private static void toldTestsThatAreNone() {
        Check.says(16, "ILL AFTER (told: 16 times those that say ill, and all told ones; those are among these).");
        OtherSide x = new OtherSide();
        int[] none = {LEAST, -256, -16, -1, 16, 33, 128, 240, 254, 256, 257, 4096, MOST};
        for (int told : none) {
            due("ill(" + told + ", 0)", x.ill(told, 0), NONE);
            due("ill(" + told + ", 1)", x.ill(told, 1), NONE);
        }
    }

    // ---- promise 17

    private static void stopsWhenWell() {
        Check.says(0, "ORDER: TESTS one after another, in an order, all 4: one stops as soon as a TEST says well: "
            + "the mean PRICE of all that are made;");
        OtherSide x = new OtherSide();
        order(x, 235, 16, 0, 1, 2, 3);
        x.mend(0, FOR_ILL, 0);
        x.mend(0, FOR_WELL, 12);
        order(x, 10, 1, 0, 1, 2, 3);
        x.mend(0, PRICE, 99);
        order(x, 3151, 160, 1, 2, 3, 0);
    }

    private static void neverStops() {
        Check.says(0, "ORDER: TESTS one after another, in an order, all 4:");
        OtherSide x = mended(FOR_ILL, 12, 12, 12, 12);
        mend(x, FOR_WELL, 0, 0, 0, 0);
        mend(x, PRICE, 99, 99, 99, 99);
        order(x, 396, 1, 0, 1, 2, 3);
        x.mend(0, ILL, 99);
        order(x, 396, 1, 0, 1, 2, 3);
        x.mend(0, ILL, 0);
        order(x, 396, 1, 0, 1, 2, 3);
    }

    private static void leastOfAllOrders() {
        Check.says(0, "of all orders that with the least");
        OtherSide x = mended(PRICE, 4, 3, 2, 1);
        mend(x, FOR_ILL, 12, 12, 12, 12);
        mend(x, FOR_WELL, 6, 6, 6, 6);
        x.mend(0, ILL, 0);
        order(x, 13, 4, 3, 2, 1, 0);
        mend(x, PRICE, 2, 2, 1, 2);
        order(x, 11, 4, 2, 0, 1, 3);
        mend(x, PRICE, 2, 2, 2, 2);
        x.mend(3, FOR_WELL, 12);
        order(x, 2, 1, 3, 0, 1, 2);
    }

    private static void firstOfLikeOrders() {
        Check.says(0, "(of like ones the first, by numbers): its mean PRICE (a fraction); the k-th TEST.");
        OtherSide x = mended(PRICE, 0, 0, 0, 0);
        order(x, 0, 1, 0, 1, 2, 3);
        x.mend(1, PRICE, 1);
        order(x, 9, 160, 0, 2, 3, 1);
        OtherSide y = mended(FOR_ILL, 0, 9, 0, 9);
        mend(y, FOR_WELL, 12, 9, 12, 9);
        order(y, 10, 1, 0, 1, 2, 3);
        y.mend(0, PRICE, 11);
        order(y, 10, 1, 2, 0, 1, 3);
    }

    private static void meanPriceOrTest() {
        Check.says(17, "ORDER: the mean PRICE (k -1), the k-th TEST (part 0 or 1, all the same).");
        OtherSide x = mended(PRICE, 99, 0, 99, 99);
        due("the first", x.order(0, 0), 1);
        due("the first, part 1", x.order(0, 1), 1);
        due("the last", x.order(3, 0), 3);
        due("the last, part 1", x.order(3, 1), 3);
        due("the last, part 2", x.order(3, 2), NONE);
        due("the last, part -1", x.order(3, -1), NONE);
        Check.chance("the mean", x.order(-1, 0), x.order(-1, 1), 99 * 15, 32);
    }

    private static void orderOfNone() {
        Check.says(17, "ORDER: the mean PRICE (k -1), the k-th TEST (part 0 or 1, all the same).");
        OtherSide x = new OtherSide();
        int[] none = {LEAST, -2, 4, 5, MOST};
        for (int k : none) {
            due("order(" + k + ", 0)", x.order(k, 0), NONE);
            due("order(" + k + ", 1)", x.order(k, 1), NONE);
        }
    }

    // ---- promises 18 and 19

    private static void toldWitnesses() {
        Check.says(0, "IT IS SO: of told WITNESSES (bits) told ones (bits) say it is so, the others not: how likely it is.");
        OtherSide x = new OtherSide();
        isSo(x, 0, 1, 6);
        for (int witness = 0; witness < 6; witness++) {
            isSo(x, 65 << witness, 3, 8);
            isSo(x, 1 << witness, 1, 16);
        }
        isSo(x, 4095, 729, 734);
        isSo(x, 63, 1, 3646);
        isSo(x, 64 * 1 + 3, 1, 6);
        isSo(x, 64 * 32 + 48, 1, 6);
        x.mend(0, LIES, 12);
        isSo(x, 65, 0, 1);
        isSo(x, 1, 1, 1);
        x.mend(5, LIES, 0);
        isSo(x, 65 * 32, 1, 1);
        isSo(x, 32, 0, 1);
        x.mend(1, LIES, 6);
        isSo(x, 65 * 2, 1, 6);
    }

    private static void isSoCannotBe() {
        Check.says(0, "0 by 1, too, if what is known cannot be).");
        OtherSide x = mended(LIES, 0, 0, 12);
        isSo(x, 64 * 1 + 3, 0, 1);
        isSo(x, 64 * 3 + 3, 1, 1);
        isSo(x, 64 * 5 + 5, 0, 1);
        x.mend(0, BEFORE, 0);
        isSo(x, 65, 0, 1);
        x.mend(0, BEFORE, 12);
        isSo(x, 1, 0, 1);
        isSo(x, 65, 1, 1);
    }

    private static void toldWitnessesAsOne() {
        Check.says(18, "IT IS SO (told: 64 times those that say so, and all told ones; those are among these).");
        for (int say = 0; say <= 64; say++) {
            OtherSide x = new OtherSide();
            for (int all = 0; all < 64; all++) {
                boolean among = say < 64 && (say & ~all) == 0;
                due("isSo(" + (64 * say + all) + ") is none", x.isSo(64 * say + all, 0) == NONE ? 1 : 0, among ? 0 : 1);
            }
        }
    }

    private static void toldWitnessesThatAreNone() {
        Check.says(18, "IT IS SO (told: 64 times those that say so, and all told ones; those are among these).");
        OtherSide x = new OtherSide();
        int[] none = {LEAST, -4096, -64, -1, 64, 129, 2048, 4032, 4094, 4096, 4097, 65536, MOST};
        for (int told : none) {
            due("isSo(" + told + ", 0)", x.isSo(told, 0), NONE);
            due("isSo(" + told + ", 1)", x.isSo(told, 1), NONE);
        }
    }

    private static void allSayTheSame() {
        Check.says(0, "TOO MANY: of told WITNESSES how likely that all say the same, whatever is so.");
        OtherSide x = new OtherSide();
        tooMany(x, 0, 1, 1);
        for (int witness = 0; witness < 6; witness++) {
            tooMany(x, 1 << witness, 1, 1);
        }
        tooMany(x, 3, 5, 8);
        tooMany(x, 48, 5, 8);
        tooMany(x, 63, 365, 2048);
        x.mend(0, BEFORE, 12);
        tooMany(x, 3, 5, 8);
        x.mend(0, LIES, 0);
        tooMany(x, 1, 1, 1);
        tooMany(x, 3, 3, 4);
        x.mend(1, LIES, 12);
        tooMany(x, 3, 0, 1);
        tooMany(x, 2, 1, 1);
        x.mend(0, LIES, 12);
        tooMany(x, 3, 1, 1);
    }

    private static void tooManyOfNone() {
        Check.says(19, "TOO MANY (told WITNESSES).");
        OtherSide x = new OtherSide();
        int[] none = {LEAST, -64, -1, 64, 65, 127, 4095, MOST};
        for (int told : none) {
            due("tooMany(" + told + ", 0)", x.tooMany(told, 0), NONE);
            due("tooMany(" + told + ", 1)", x.tooMany(told, 1), NONE);
        }
        tooMany(x, 0, 1, 1);
        tooMany(x, 63, 365, 2048);
    }

    // ---- promise 20

    private static void cameSoOften() {
        Check.says(0, "NEXT: one that came r of n times (0 .. 99) comes next time: r and 1 by n and 2.");
        OtherSide x = new OtherSide();
        next(x, 0, 1, 2);
        next(x, 1, 1, 3);
        next(x, 101, 2, 3);
        next(x, 99, 1, 101);
        next(x, 9999, 100, 101);
        next(x, 4999, 50, 101);
        next(x, 4998, 1, 2);
    }

    private static void nextAsOne() {
        Check.says(20, "NEXT (rn: 100 r and n; r no more than n).");
        for (int n = 0; n <= 99; n++) {
            OtherSide x = new OtherSide();
            next(x, 101 * n, n + 1, n + 2);
            Ratio none = Ratio.of(1, n + 2);
            next(x, n, none.part(0), none.part(1));
            due("r one more than " + n, x.next(100 * (n + 1) + n, 0), NONE);
            due("r 99 of " + n, x.next(9900 + n, 0) == NONE ? 1 : 0, n < 99 ? 1 : 0);
        }
    }

    private static void nextOfNone() {
        Check.says(20, "NEXT (rn: 100 r and n; r no more than n).");
        OtherSide x = new OtherSide();
        int[] none = {LEAST, -10000, -101, -100, -99, -1, 100, 200, 201, 9900, 9998, 10000, 10099, 10100, 10101, 1000000, MOST};
        for (int rn : none) {
            due("next(" + rn + ", 0)", x.next(rn, 0), NONE);
            due("next(" + rn + ", 1)", x.next(rn, 1), NONE);
        }
    }

    // ---- promise 21

    private static void buysAndSellsAtQuote() {
        Check.says(0, "he buys and sells at QUOTE a note that pays 12, if that outcome comes.");
        sure(mended(QUOTE, 0, 0, 0), 60, 5, 5, 5);
        sure(mended(QUOTE, 12, 12, 12), 120, -5, -5, -5);
        sure(mended(QUOTE, 4, 4, 3), 5, 5, 5, 5);
        sure(mended(QUOTE, 4, 4, 5), 5, -5, -5, -5);
    }

    private static void losesTheMost() {
        Check.says(0, "by which he loses the most whatever comes (the least that he loses in any outcome is greatest;");
        sure(mended(QUOTE, 1, 2, 3), 30, 5, 5, 5);
        sure(mended(QUOTE, 11, 2, 3), 20, -5, -5, -5);
        sure(mended(QUOTE, 11, 0, 0), 5, 5, 5, 5);
        sure(mended(QUOTE, 11, 1, 1), 5, -5, -5, -5);
    }

    private static void stakesWithinFive() {
        Check.says(0, "SURE: STAKES (-5 .. 5 notes bought of him, of each; below 0 sold to him)");
        for (int quote = 0; quote <= 12; quote++) {
            OtherSide x = mended(QUOTE, quote, quote, quote);
            int stake = quote < 4 ? 5 : quote > 4 ? -5 : 0;
            int loss = quote == 4 ? NOT : 5 * Math.abs(12 - 3 * quote);
            sure(x, loss, stake, stake, stake);
        }
    }

    private static void firstOfLikeStakes() {
        Check.says(0, "of like ones the first, by outcomes from -5 on): how much; the STAKE on one;");
        sure(mended(QUOTE, 0, 1, 12), 5, -5, -5, -5);
        sure(mended(QUOTE, 1, 0, 12), 5, -5, -5, -5);
        sure(mended(QUOTE, 12, 1, 0), 5, -5, -5, -5);
        sure(mended(QUOTE, 0, 12, 12), 60, -5, -5, -5);
    }

    private static void losesInNone() {
        Check.says(0, "NOT: none by which he loses in each.");
        sure(new OtherSide(), NOT, 0, 0, 0);
        sure(mended(QUOTE, 12, 0, 0), NOT, 0, 0, 0);
        sure(mended(QUOTE, 0, 0, 12), NOT, 0, 0, 0);
        sure(mended(QUOTE, 5, 4, 3), NOT, 0, 0, 0);
        sure(mended(QUOTE, 6, 6, 0), NOT, 0, 0, 0);
    }

    private static void howMuchOrTheStake() {
        Check.says(21, "SURE: how much (k -1), the STAKE on outcome k.");
        OtherSide x = mended(QUOTE, 12, 12, 12);
        sure(x, 120, -5, -5, -5);
        mend(x, QUOTE, 4, 4, 4);
        sure(x, NOT, 0, 0, 0);
        mend(x, QUOTE, 4, 4, 0);
        sure(x, 20, 5, 5, 5);
    }

    private static void sureOfNone() {
        Check.says(21, "VOID: BAD; NOT (-1 alone; STAKES are 0 then).");
        OtherSide x = new OtherSide();
        int[] none = {LEAST, -3, -2, 3, 4, MOST};
        for (int k : none) {
            due("sure(" + k + ")", x.sure(k), VOID);
        }
        due("-1 alone is NOT", x.sure(-1), NOT);
        for (int k = 0; k < 3; k++) {
            due("a stake is 0 then", x.sure(k), 0);
        }
    }

    private static void partsThatAreNone() {
        Check.says(0, "(part 0 above, 1 below the line)");
        OtherSide x = new OtherSide();
        int[] none = {LEAST, -1, 2, 3, MOST};
        for (int part : none) {
            due("handed part " + part, x.handed(1, 0, part), NONE);
            due("handed part " + part, x.handed(1, 1, part), NONE);
            due("ill part " + part, x.ill(17, part), NONE);
            due("order part " + part, x.order(-1, part), NONE);
            due("order part " + part, x.order(0, part), NONE);
            due("isSo part " + part, x.isSo(65, part), NONE);
            due("tooMany part " + part, x.tooMany(3, part), NONE);
            due("tooMany part " + part, x.tooMany(0, part), NONE);
            due("next part " + part, x.next(0, part), NONE);
        }
    }
}
