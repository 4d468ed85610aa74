/** The edges that the document names of body, act, trace (promises 29 to 31), sentence by sentence. */
public final class EdgesOfActsTest {
    private static final int BAD = OtherSide.BAD, FULL = OtherSide.FULL;
    private static final int LEAST = Integer.MIN_VALUE, MOST = Integer.MAX_VALUE;
    private static final int HAT = 0, PLAIN = 1, URN = 2, TEST = 3, SAY = 4, WITNESS = 5, TOLD = 6, CHEATED = 7;
    private static final int SHOWS = 0, DRAWS = 1, LEAVES = 2, TELLS = 3;
    private static final int[] EDGES = {0, 1, -1, 2, 5, 1 << 30, -1 << 30, MOST, MOST - 1, LEAST, LEAST + 1};

    public static void main(String[] args) {
        kindsZeroToSeven();
        noKind();
        fiftyBodies();
        kindsUnderKinds();
        actsByNumber();
        intsThatWrap();
        showsOfAll();
        hatDraws();
        hatLeaves();
        hatTells();
        plainShows();
        urnDraws();
        testLeavesAndDraws();
        sayTells();
        witnessLeavesAndTells();
        toldShows();
        cheatedDrawsAndShows();
        ownKindOrTheNextAbove();
        fromTheKindAbove();
        noSuchBodyOrAct();
        asTheyBegan();
        theLatestAct();
        theFirstAreKept();
        noPlaceOfTheTrace();
        Check.end("EdgesOfActsTest");
    }

    private static void due(String call, long got, long want) {
        Check.due(call, got, want);
    }

    /** Bodies 0 to 49 of one kind. */
    private static OtherSide bodies(int kind) {
        OtherSide x = new OtherSide();
        for (int i = 0; i < 50; i++) {
            x.body(kind);
        }
        return x;
    }

    private static void trace(OtherSide x, int... numbers) {
        due("bodies that ran", x.count(5), numbers.length);
        for (int i = 0; i < numbers.length; i++) {
            due("trace(" + i + ")", x.trace(i), numbers[i]);
        }
        due("trace(" + numbers.length + ")", x.trace(numbers.length), BAD);
    }

    /** What an act of a kind is with x, n being the body's number: written out, without any super. */
    private static int written(int kind, int act, int x, int n) {
        switch (4 * kind + act) {
            case 4 * PLAIN + SHOWS: case 4 * SAY + SHOWS: return x + n + 3;
            case 4 * TOLD + SHOWS: return 2 * (x + n);
            case 4 * CHEATED + SHOWS: return 2 * (x + n) - 1;
            case 4 * HAT + DRAWS: return 2 * (x + n);
            case 4 * PLAIN + DRAWS: case 4 * SAY + DRAWS: return 2 * (x + n + 3);
            case 4 * URN + DRAWS: return -2 * (x + n);
            case 4 * TEST + DRAWS: case 4 * WITNESS + DRAWS: return -2 * (x + 1 + n);
            case 4 * TOLD + DRAWS: return 4 * (x + n);
            case 4 * CHEATED + DRAWS: return 4 * (x + n) - 2 + (2 ^ n);
            case 4 * TEST + LEAVES: return 3 * (x ^ n);
            case 4 * WITNESS + LEAVES: return 3 * (x ^ n) - 2 - n;
            case 4 * SAY + TELLS: return 2 * (x + n + 3) - (1 ^ n) ^ 5;
            case 4 * WITNESS + TELLS: return -2 * (x + 1 + n) - (3 * (1 ^ n) - 2 - n) + 1;
            default: break;
        }
        if (act == TELLS) {
            return written(kind, DRAWS, x, n) - written(kind, LEAVES, 1, n);
        }
        return act == LEAVES ? x ^ n : x + n;
    }

    /** An act of the first and the last body of a kind with x at all edges, and its trace. */
    private static void acts(int kind, int act, int... numbers) {
        OtherSide x = bodies(kind);
        for (int with : EDGES) {
            for (int n = 0; n < 50; n += 49) {
                due("act(" + n + ", " + act + ", " + with + ") of kind " + kind, x.act(n, act, with),
                    written(kind, act, with, n));
            }
        }
        trace(x, numbers);
    }

    // ---- promise 29

    private static void kindsZeroToSeven() {
        Check.says(29, "A BODY of a KIND (0 .. 7) is kept: its number.");
        OtherSide x = new OtherSide();
        for (int kind = 0; kind < 8; kind++) {
            due("body(" + kind + ")", x.body(kind), kind);
            due("bodies", x.count(4), kind + 1);
        }
        for (int kind = 0; kind < 8; kind++) {
            due("keep", x.keep(0, kind), 1);
            due("its kind", x.taken(0, HAT), kind);
        }
    }

    private static void noKind() {
        Check.says(29, "BAD, FULL.");
        OtherSide x = new OtherSide();
        int[] none = {LEAST, -1, 8, 9, 50, MOST};
        for (int kind : none) {
            due("body(" + kind + ")", x.body(kind), BAD);
        }
        due("none is kept", x.count(4), 0);
        due("the first", x.body(7), 0);
    }

    private static void fiftyBodies() {
        Check.says(0, "BODIES 0 .. 49 are kept by call,");
        OtherSide x = new OtherSide();
        for (int i = 0; i < 50; i++) {
            due("body", x.body(i % 8), i);
        }
        due("a fiftieth", x.body(0), FULL);
        due("a fiftieth of no kind", x.body(8), BAD);
        due("a fiftieth of kind -1", x.body(-1), BAD);
        due("bodies", x.count(4), 50);
        due("the last acts", x.act(49, SHOWS, 1), 53);
        due("a fiftieth does not", x.act(50, SHOWS, 1), 0);
        due("a fiftieth is not kept on a shelf", x.keep(0, 50), BAD);
        due("the last is", x.keep(0, 49), 1);
    }

    private static void kindsUnderKinds() {
        Check.says(0, "of KINDS: 0 HAT; 1 PLAIN under HAT; 2 URN under HAT; 3 TEST under URN; 4 SAY under PLAIN; "
            + "5 WITNESS under TEST; 6 TOLD under HAT; 7 CHEATED under TOLD.");
        int[][] above = {{HAT}, {PLAIN, HAT}, {URN, HAT}, {TEST, URN, HAT}, {SAY, PLAIN, HAT}, {WITNESS, TEST, URN, HAT},
            {TOLD, HAT}, {CHEATED, TOLD, HAT}};
        OtherSide x = new OtherSide();
        for (int kind = 0; kind < 8; kind++) {
            x.keep(0, x.body(kind));
            for (int k = 0; k < 8; k++) {
                int want = -12;
                for (int a : above[kind]) {
                    want = a == k ? kind : want;
                }
                due("kind " + kind + " taken for " + k, x.taken(0, k), want);
            }
        }
    }

    // ---- promise 30

    private static void actsByNumber() {
        Check.says(0, "ACTS with x (an int that wraps): 0 shows, 1 draws, 2 leaves, 3 tells; n its number.");
        OtherSide x = bodies(HAT);
        for (int n = 0; n < 50; n++) {
            due("shows", x.act(n, 0, 100), 100 + n);
            due("draws", x.act(n, 1, 100), 200 + 2 * n);
            due("leaves", x.act(n, 2, 100), 100 ^ n);
            due("tells", x.act(n, 3, 100), 200 + 2 * n - (1 ^ n));
        }
        due("act 4", x.act(0, 4, 100), 0);
        due("act -1", x.act(0, -1, 100), 0);
    }

    private static void intsThatWrap() {
        Check.says(0, "ACTS with x (an int that wraps):");
        OtherSide x = bodies(HAT);
        due("one above the most", x.act(1, SHOWS, MOST), LEAST);
        due("the most and 49", x.act(49, SHOWS, MOST), LEAST + 48);
        due("the least", x.act(0, SHOWS, LEAST), LEAST);
        due("twice 1 << 30", x.act(0, DRAWS, 1 << 30), LEAST);
        due("twice the most", x.act(0, DRAWS, MOST), -2);
        due("twice the least", x.act(0, DRAWS, LEAST), 0);
        due("leaves of the least", x.act(1, LEAVES, LEAST), LEAST + 1);
        OtherSide urn = bodies(URN);
        due("less the least is the least", urn.act(0, DRAWS, 1 << 30), LEAST);
        due("less that less 1", urn.act(0, TELLS, 1 << 30), MOST);
        OtherSide test = bodies(TEST);
        due("one above the most, twice", test.act(0, DRAWS, MOST), 0);
        due("three times the least", test.act(0, LEAVES, LEAST), LEAST);
        due("three times the most", test.act(0, LEAVES, MOST), MOST - 2);
    }

    private static void showsOfAll() {
        Check.says(0, "BODIES of acts: SHOWS (an interface of HAT): 1 shows: x + n.");
        acts(HAT, SHOWS, 1);
        acts(URN, SHOWS, 1);
        acts(TEST, SHOWS, 1);
        acts(WITNESS, SHOWS, 1);
    }

    private static void hatDraws() {
        Check.says(0, "HAT: 10 draws: shows(x) * 2.");
        acts(HAT, DRAWS, 10, 1);
        acts(PLAIN, DRAWS, 10, 20, 1);
        acts(SAY, DRAWS, 10, 20, 1);
        acts(TOLD, DRAWS, 10, 70, 1);
    }

    private static void hatLeaves() {
        Check.says(0, "11 leaves: x ^ n.");
        int[] kinds = {HAT, PLAIN, URN, SAY, TOLD, CHEATED};
        for (int kind : kinds) {
            acts(kind, LEAVES, 11);
        }
    }

    private static void hatTells() {
        Check.says(0, "TELLS (of HAT): 2 tells: draws(x) - leaves(1).");
        acts(HAT, TELLS, 2, 10, 1, 11);
        acts(PLAIN, TELLS, 2, 10, 20, 1, 11);
        acts(URN, TELLS, 2, 30, 10, 1, 11);
        acts(TEST, TELLS, 2, 41, 30, 10, 1, 40, 11);
        acts(TOLD, TELLS, 2, 10, 70, 1, 11);
        acts(CHEATED, TELLS, 2, 80, 10, 81, 70, 1, 11, 11);
    }

    private static void plainShows() {
        Check.says(0, "PLAIN: 20 shows: super.shows(x) + 3.");
        acts(PLAIN, SHOWS, 20, 1);
        acts(SAY, SHOWS, 20, 1);
    }

    private static void urnDraws() {
        Check.says(0, "URN: 30 draws: -super.draws(x).");
        acts(URN, DRAWS, 30, 10, 1);
    }

    private static void testLeavesAndDraws() {
        Check.says(0, "TEST: 40 leaves: super.leaves(x) * 3. 41 draws: super.draws(x + 1).");
        acts(TEST, LEAVES, 40, 11);
        acts(TEST, DRAWS, 41, 30, 10, 1);
        acts(WITNESS, DRAWS, 41, 30, 10, 1);
    }

    private static void sayTells() {
        Check.says(0, "SAY: 50 tells: super.tells(x) ^ 5.");
        acts(SAY, TELLS, 50, 2, 10, 20, 1, 11);
    }

    private static void witnessLeavesAndTells() {
        Check.says(0, "WITNESS: 60 leaves: super.leaves(x) - shows(2). 61 tells: super.tells(x) + 1.");
        acts(WITNESS, LEAVES, 60, 40, 11, 1);
        acts(WITNESS, TELLS, 61, 2, 41, 30, 10, 1, 60, 40, 11, 1);
    }

    private static void toldShows() {
        Check.says(0, "TOLD: 70 shows: super.shows(x) * 2.");
        acts(TOLD, SHOWS, 70, 1);
    }

    private static void cheatedDrawsAndShows() {
        Check.says(0, "CHEATED: 80 draws: super.draws(x) + leaves(2). 81 shows: super.shows(x) - 1.");
        acts(CHEATED, DRAWS, 80, 10, 81, 70, 1, 11);
        acts(CHEATED, SHOWS, 81, 70, 1);
    }

    private static void ownKindOrTheNextAbove() {
        Check.says(0, "shows(..) and so on: the body of its own KIND, or of the next KIND above that has one;");
        OtherSide x = new OtherSide();
        for (int kind = 0; kind < 8; kind++) {
            x.body(kind);
        }
        due("HAT's draws by its own shows", x.act(HAT, DRAWS, 10), 20);
        due("by PLAIN's shows", x.act(PLAIN, DRAWS, 10), 28);
        due("SAY has none, by PLAIN's shows", x.act(SAY, DRAWS, 10), 34);
        due("by TOLD's shows", x.act(TOLD, DRAWS, 10), 64);
        due("by CHEATED's shows and leaves", x.act(CHEATED, DRAWS, 10), 71);
        due("WITNESS has no draws, by TEST's", x.act(WITNESS, DRAWS, 10), -32);
    }

    private static void fromTheKindAbove() {
        Check.says(0, "super: from the KIND above the body's on.");
        OtherSide x = new OtherSide();
        for (int kind = 0; kind < 8; kind++) {
            x.body(kind);
        }
        due("of PLAIN's body from HAT on, for a SAY too", x.act(SAY, SHOWS, 10), 17);
        due("of TEST's body from URN on, for a WITNESS too", x.act(WITNESS, DRAWS, 0), -12);
        due("of WITNESS's leaves from TEST on", x.act(WITNESS, LEAVES, 0), 15 - 7);
        due("of SAY's tells from PLAIN on, by PLAIN's shows", x.act(SAY, TELLS, 10), 34 - 5 ^ 5);
        due("of CHEATED's shows from TOLD on", x.act(CHEATED, SHOWS, 10), 33);
    }

    private static void noSuchBodyOrAct() {
        Check.says(30, "An ACT (0 .. 3) of a BODY with x. 0, and no TRACE then: no such BODY, ACT.");
        OtherSide x = new OtherSide();
        due("no body yet", x.act(0, SHOWS, 7), 0);
        trace(x);
        x.body(WITNESS);
        int[] none = {LEAST, -1, 4, 49, 50, MOST};
        for (int i : none) {
            due("a body that is", x.act(0, TELLS, 7), -2 * 8 - 1 + 1);
            due("it ran", x.count(5), 10);
            due("act " + i, x.act(0, i, 7), 0);
            trace(x);
            x.act(0, TELLS, 7);
            due("body " + i, x.act(i, SHOWS, 7), 0);
            trace(x);
        }
        x.act(0, TELLS, 7);
        due("body 1", x.act(1, SHOWS, 7), 0);
        trace(x);
        due("act 3", x.act(0, 3, 7), -16);
        due("act 0", x.act(0, 0, 7), 7);
    }

    // ---- promise 31

    private static void asTheyBegan() {
        Check.says(0, "THE TRACE: numbers of the bodies that ran in the latest act(), as they began;");
        OtherSide x = new OtherSide();
        x.body(WITNESS);
        trace(x);
        x.act(0, TELLS, 0);
        trace(x, 61, 2, 41, 30, 10, 1, 60, 40, 11, 1);
    }

    private static void theLatestAct() {
        Check.says(31, "THE TRACE's i-th body.");
        OtherSide x = new OtherSide();
        x.body(CHEATED);
        x.act(0, TELLS, 0);
        trace(x, 2, 80, 10, 81, 70, 1, 11, 11);
        x.act(0, LEAVES, 0);
        trace(x, 11);
        due("of the one before no more", x.trace(7), BAD);
        x.body(HAT);
        x.card(1);
        x.draw(0);
        trace(x, 11);
        x.act(0, SHOWS, 0);
        trace(x, 81, 70, 1);
    }

    private static void theFirstAreKept() {
        Check.says(0, "the first 24 are kept.");
        int longest = 0;
        for (int kind = 0; kind < 8; kind++) {
            OtherSide x = bodies(kind);
            for (int act = 0; act < 4; act++) {
                x.act(49, act, MOST);
                int ran = x.count(5);
                longest = Math.max(longest, ran);
                for (int i = 0; i < 26; i++) {
                    due("kept at " + i, x.trace(i) == BAD ? 0 : 1, i < ran && i < 24 ? 1 : 0);
                }
            }
        }
        due("the most bodies that run in an act, all kept", longest, 10);
    }

    private static void noPlaceOfTheTrace() {
        Check.says(31, "BAD.");
        OtherSide x = new OtherSide();
        due("no act yet", x.trace(0), BAD);
        x.body(HAT);
        x.act(0, SHOWS, 0);
        int[] none = {LEAST, -24, -1, 1, 23, 24, 25, MOST};
        for (int i : none) {
            due("trace(" + i + ")", x.trace(i), BAD);
        }
        due("trace(0)", x.trace(0), 1);
    }
}
