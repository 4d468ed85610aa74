/** The edges that the document names of keep, row, put, element, shift, taken, count (promises 32 to 38), sentence by sentence. */
public final class EdgesOfShelvesTest {
    private static final int BAD = OtherSide.BAD;
    private static final long NONE = Long.MIN_VALUE;
    private static final int LEAST = Integer.MIN_VALUE, MOST = Integer.MAX_VALUE;
    private static final int BYTES = 0, SHORTS = 1, INTS = 2, LONGS = 3, BOOLEANS = 4;

    public static void main(String[] args) {
        nothingAtFirst();
        shelvesZeroToFive();
        bodyOrNothing();
        keptOfNone();
        zeroToSixtyElements();
        noughtAtFirst();
        rowAnew();
        rowOfNone();
        rowNamedFirst();
        bytes();
        shorts();
        ints();
        longs();
        booleans();
        putRefusals();
        putNamedFirst();
        elementOfARow();
        elementRefusals();
        hostsRefusals();
        shiftsToAnother();
        asTheyAllWereBefore();
        shiftRefusals();
        shiftNothing();
        shiftUnlike();
        shiftPlaces();
        shiftNone();
        shiftNamedFirst();
        takenForAKind();
        takenRefusals();
        countsEach();
        countsAtTheirMost();
        countOfNone();
        Check.end("EdgesOfShelvesTest");
    }

    private static void due(String call, long got, long want) {
        Check.due(call, got, want);
    }

    private static void holds(OtherSide x, int shelf, long... elements) {
        for (int i = 0; i < elements.length; i++) {
            due("element(" + shelf + ", " + i + ")", x.element(shelf, i), elements[i]);
        }
        due("element(" + shelf + ", " + elements.length + ")", x.element(shelf, elements.length), NONE);
    }

    private static void keeps(int sort, long v, long kept) {
        OtherSide x = new OtherSide();
        x.row(0, sort, 3);
        due("put " + v, x.put(0, 1, v), 1);
        holds(x, 0, 0, kept, 0);
    }

    // ---- promise 32

    private static void nothingAtFirst() {
        Check.says(0, "SHELVES 0 .. 5 each hold nothing (at first), a BODY, or a ROW:");
        OtherSide x = new OtherSide();
        for (int shelf = 0; shelf < 6; shelf++) {
            due("taken(" + shelf + ", 0)", x.taken(shelf, 0), -11);
            due("put(" + shelf + ", 0, 1)", x.put(shelf, 0, 1), -11);
            due("judge(" + shelf + ")", x.judge(shelf), -11);
            due("cheated(" + shelf + ")", x.cheated(shelf), -11);
            due("element(" + shelf + ", 0)", x.element(shelf, 0), NONE);
        }
    }

    private static void shelvesZeroToFive() {
        Check.says(0, "SHELVES 0 .. 5 each hold nothing (at first), a BODY, or a ROW:");
        OtherSide x = new OtherSide();
        for (int shelf = 0; shelf < 6; shelf++) {
            due("row", x.row(shelf, LONGS, 1), 1);
            due("put", x.put(shelf, 0, shelf + 1L), 1);
        }
        for (int shelf = 0; shelf < 6; shelf++) {
            holds(x, shelf, shelf + 1L);
        }
        x.body(2);
        due("a body behind a row", x.keep(5, 0), 1);
        due("its kind", x.taken(5, 2), 2);
        due("no row any more", x.element(5, 0), NONE);
        holds(x, 4, 5);
    }

    private static void bodyOrNothing() {
        Check.says(32, "A SHELF holds nothing (body -1), or a BODY: 1.");
        OtherSide x = new OtherSide();
        x.body(5);
        x.body(7);
        due("the first shelf", x.keep(0, 0), 1);
        due("the last shelf", x.keep(5, 1), 1);
        due("the first shelf's kind", x.taken(0, 0), 5);
        due("the last shelf's kind", x.taken(5, 0), 7);
        due("nothing", x.keep(0, -1), 1);
        due("nothing there", x.taken(0, 0), -11);
        due("nothing again", x.keep(0, -1), 1);
        x.row(1, BYTES, 2);
        due("nothing behind a row", x.keep(1, -1), 1);
        due("nothing there", x.judge(1), -11);
        due("a row behind nothing", x.row(1, BYTES, 2), 1);
        holds(x, 1, 0, 0);
    }

    private static void keptOfNone() {
        Check.says(32, "BAD.");
        OtherSide x = new OtherSide();
        due("no body yet", x.keep(0, 0), BAD);
        x.body(0);
        int[] none = {LEAST, -2, 1, 49, 50, MOST};
        for (int body : none) {
            due("keep(0, " + body + ")", x.keep(0, body), BAD);
        }
        int[] shelves = {LEAST, -1, 6, MOST};
        for (int shelf : shelves) {
            due("keep(" + shelf + ", 0)", x.keep(shelf, 0), BAD);
            due("keep(" + shelf + ", -1)", x.keep(shelf, -1), BAD);
        }
        due("nothing there", x.taken(0, 0), -11);
    }

    // ---- promise 33

    private static void zeroToSixtyElements() {
        Check.says(0, "of 0 bytes, 1 shorts, 2 ints, 3 longs, 4 booleans, of 0 .. 60 elements,");
        for (int sort = 0; sort < 5; sort++) {
            OtherSide x = new OtherSide();
            due("of none", x.row(0, sort, 0), 1);
            due("put", x.put(0, 0, 1), -13);
            holds(x, 0);
            due("of one", x.row(0, sort, 1), 1);
            due("put", x.put(0, 0, 1), 1);
            due("behind it", x.put(0, 1, 1), -13);
            holds(x, 0, 1);
            due("of sixty", x.row(0, sort, 60), 1);
            due("put", x.put(0, 59, 1), 1);
            due("behind them", x.put(0, 60, 1), -13);
            due("the last", x.element(0, 59), 1);
            due("of 61", x.row(0, sort, 61), BAD);
            due("the last still", x.element(0, 59), 1);
        }
    }

    private static void noughtAtFirst() {
        Check.says(0, "0 at first (false);");
        OtherSide x = new OtherSide();
        for (int sort = 0; sort < 5; sort++) {
            x.row(sort, sort, 60);
            for (int i = 0; i < 60; i++) {
                due("of sort " + sort, x.element(sort, i), 0);
            }
        }
    }

    private static void rowAnew() {
        Check.says(33, "A SHELF holds a ROW: 1.");
        OtherSide x = new OtherSide();
        x.row(0, BYTES, 3);
        x.put(0, 2, 7);
        due("another", x.row(0, BYTES, 3), 1);
        holds(x, 0, 0, 0, 0);
        x.put(0, 2, 7);
        x.row(0, LONGS, 2);
        x.row(0, BYTES, 3);
        holds(x, 0, 0, 0, 0);
        x.body(0);
        x.keep(0, 0);
        due("behind a body", x.row(0, INTS, 1), 1);
        due("the body is gone", x.taken(0, 0), -12);
    }

    private static void rowOfNone() {
        Check.says(33, "BAD (sort, n above 60); -14.");
        OtherSide x = new OtherSide();
        x.row(0, LONGS, 1);
        x.put(0, 0, 9);
        int[] sorts = {LEAST, -1, 5, MOST};
        for (int sort : sorts) {
            due("sort " + sort, x.row(0, sort, 1), BAD);
        }
        int[] above = {61, 62, 1000, MOST};
        for (int n : above) {
            due("of " + n, x.row(0, BYTES, n), BAD);
        }
        int[] below = {LEAST, -60, -2, -1};
        for (int n : below) {
            due("of " + n, x.row(0, BYTES, n), -14);
        }
        int[] shelves = {LEAST, -1, 6, MOST};
        for (int shelf : shelves) {
            due("shelf " + shelf, x.row(shelf, BYTES, 1), BAD);
        }
        holds(x, 0, 9);
    }

    private static void rowNamedFirst() {
        Check.says(33, "BAD (sort, n above 60); -14.");
        OtherSide x = new OtherSide();
        due("a sort that is none, below 0", x.row(0, 5, -1), BAD);
        due("a shelf that is none, below 0", x.row(6, 0, -1), BAD);
        due("below 0", x.row(5, 4, -1), -14);
        due("nothing there", x.taken(5, 0), -11);
    }

    // ---- promise 34

    private static void bytes() {
        Check.says(0, "what is put in keeps its lowest bits");
        keeps(BYTES, 127, 127);
        keeps(BYTES, 128, -128);
        keeps(BYTES, -128, -128);
        keeps(BYTES, -129, 127);
        keeps(BYTES, 255, -1);
        keeps(BYTES, 256, 0);
        keeps(BYTES, -1, -1);
        keeps(BYTES, Long.MAX_VALUE, -1);
        keeps(BYTES, Long.MIN_VALUE, 0);
    }

    private static void shorts() {
        Check.says(0, "what is put in keeps its lowest bits");
        keeps(SHORTS, 32767, 32767);
        keeps(SHORTS, 32768, -32768);
        keeps(SHORTS, -32769, 32767);
        keeps(SHORTS, 65535, -1);
        keeps(SHORTS, 65536, 0);
        keeps(SHORTS, 128, 128);
        keeps(SHORTS, Long.MAX_VALUE, -1);
        keeps(SHORTS, Long.MIN_VALUE, 0);
    }

    private static void ints() {
        Check.says(0, "what is put in keeps its lowest bits");
        keeps(INTS, MOST, MOST);
        keeps(INTS, MOST + 1L, LEAST);
        keeps(INTS, LEAST, LEAST);
        keeps(INTS, LEAST - 1L, MOST);
        keeps(INTS, (1L << 32) - 1, -1);
        keeps(INTS, 1L << 32, 0);
        keeps(INTS, 65536, 65536);
        keeps(INTS, Long.MAX_VALUE, -1);
        keeps(INTS, Long.MIN_VALUE, 0);
    }

    private static void longs() {
        Check.says(0, "what is put in keeps its lowest bits");
        keeps(LONGS, Long.MAX_VALUE, Long.MAX_VALUE);
        keeps(LONGS, Long.MIN_VALUE, Long.MIN_VALUE);
        keeps(LONGS, 1L << 32, 1L << 32);
        keeps(LONGS, -1, -1);
    }

    private static void booleans() {
        Check.says(0, "(a boolean: whether it is not 0; 1 or 0).");
        keeps(BOOLEANS, 0, 0);
        keeps(BOOLEANS, 1, 1);
        keeps(BOOLEANS, 2, 1);
        keeps(BOOLEANS, -1, 1);
        keeps(BOOLEANS, 256, 1);
        keeps(BOOLEANS, 1L << 32, 1);
        keeps(BOOLEANS, Long.MIN_VALUE, 1);
        keeps(BOOLEANS, Long.MAX_VALUE, 1);
        OtherSide x = new OtherSide();
        x.row(0, BOOLEANS, 1);
        x.put(0, 0, 5);
        due("false again", x.put(0, 0, 0), 1);
        holds(x, 0, 0);
    }

    private static void putRefusals() {
        Check.says(34, "Element i of a ROW becomes v: 1. BAD, -11, -12, -13.");
        OtherSide x = new OtherSide();
        int[] shelves = {LEAST, -1, 6, MOST};
        for (int shelf : shelves) {
            due("shelf " + shelf, x.put(shelf, 0, 1), BAD);
        }
        due("nothing", x.put(0, 0, 1), -11);
        x.body(0);
        x.keep(0, 0);
        due("a body", x.put(0, 0, 1), -12);
        for (int sort = 0; sort < 5; sort++) {
            x.row(0, sort, 3);
            int[] places = {LEAST, -1, 3, 59, 60, MOST};
            for (int i : places) {
                due("place " + i, x.put(0, i, 1), -13);
            }
            holds(x, 0, 0, 0, 0);
            due("the first", x.put(0, 0, 1), 1);
            due("the last", x.put(0, 2, 1), 1);
            holds(x, 0, 1, 0, 1);
        }
    }

    private static void putNamedFirst() {
        Check.says(34, "BAD, -11, -12, -13.");
        OtherSide x = new OtherSide();
        due("no shelf, no place", x.put(6, -1, 1), BAD);
        due("nothing, no place", x.put(5, -1, 1), -11);
        x.body(0);
        x.keep(5, 0);
        due("a body, no place", x.put(5, -1, 1), -12);
    }

    // ---- promise 35

    private static void elementOfARow() {
        Check.says(35, "Element i of a ROW;");
        OtherSide x = new OtherSide();
        x.row(0, LONGS, 60);
        for (int i = 0; i < 60; i++) {
            x.put(0, i, i - 30);
        }
        for (int i = 0; i < 60; i++) {
            due("like a refusal or not", x.element(0, i), i - 30);
        }
        x.put(0, 0, NONE);
        due("even this", x.element(0, 0), NONE);
    }

    private static void elementRefusals() {
        Check.says(35, "Long.MIN_VALUE: BAD, -11 to -13.");
        OtherSide x = new OtherSide();
        int[] shelves = {LEAST, -1, 6, MOST};
        for (int shelf : shelves) {
            due("shelf " + shelf, x.element(shelf, 0), NONE);
        }
        due("nothing", x.element(0, 0), NONE);
        x.body(0);
        x.keep(0, 0);
        due("a body", x.element(0, 0), NONE);
        x.row(0, BYTES, 3);
        int[] places = {LEAST, -1, 3, 59, 60, MOST};
        for (int i : places) {
            due("place " + i, x.element(0, i), NONE);
        }
        holds(x, 0, 0, 0, 0);
    }

    private static void hostsRefusals() {
        Check.says(0, "The host's REFUSALS: -11 nothing is there where something is wanted; -12 it is of another kind; "
            + "-13 a place that is not there; -14 a size below 0.");
        OtherSide x = new OtherSide();
        due("nothing", x.put(0, 0, 0), -11);
        due("nothing", x.taken(0, 0), -11);
        due("nothing", x.shift(0, 0, 0, 0, 0), -11);
        due("a size below 0", x.row(0, 0, -1), -14);
        x.row(0, BYTES, 1);
        due("a row for a body", x.taken(0, 0), -12);
        due("no place", x.put(0, 1, 0), -13);
        due("no place", x.shift(0, 0, 0, 1, 1), -13);
        x.keep(0, x.body(1));
        due("a body for a row", x.put(0, 0, 0), -12);
        due("a body for a row", x.shift(0, 0, 0, 0, 0), -12);
        due("a plain one for an urn", x.taken(0, 2), -12);
    }

    // ---- promise 36

    /** Shelves 0 and 1: rows of a sort, of five and of three elements; shelf 2 a row of another sort; 3 a body; 4, 5 nothing. */
    private static OtherSide shelves(int sort) {
        OtherSide x = new OtherSide();
        x.row(0, sort, 5);
        for (int i = 0; i < 5; i++) {
            x.put(0, i, i % 2 == 0 ? 1 : 0);
        }
        x.row(1, sort, 3);
        x.row(2, (sort + 1) % 5, 5);
        x.keep(3, x.body(0));
        return x;
    }

    private static void shiftsToAnother() {
        Check.says(36, "n elements of a ROW from i on come to another one (or the same) from j on,");
        for (int sort = 0; sort < 5; sort++) {
            OtherSide x = shelves(sort);
            due("the last three", x.shift(0, 2, 1, 0, 3), 3);
            holds(x, 1, 1, 0, 1);
            holds(x, 0, 1, 0, 1, 0, 1);
            due("one to the last", x.shift(0, 1, 1, 2, 1), 1);
            holds(x, 1, 1, 0, 0);
            due("all of the shorter one", x.shift(1, 0, 0, 1, 3), 3);
            holds(x, 0, 1, 1, 0, 0, 1);
        }
        OtherSide y = new OtherSide();
        y.row(0, LONGS, 60);
        y.row(5, LONGS, 60);
        y.put(0, 59, Long.MIN_VALUE + 1);
        due("sixty", y.shift(0, 0, 5, 0, 60), 60);
        due("the last of them", y.element(5, 59), Long.MIN_VALUE + 1);
    }

    private static void asTheyAllWereBefore() {
        Check.says(36, "as they all were before: n.");
        OtherSide x = new OtherSide();
        x.row(0, INTS, 5);
        for (int i = 0; i < 5; i++) {
            x.put(0, i, i + 1);
        }
        due("upward", x.shift(0, 0, 0, 1, 4), 4);
        holds(x, 0, 1, 1, 2, 3, 4);
        due("downward", x.shift(0, 1, 0, 0, 4), 4);
        holds(x, 0, 1, 2, 3, 4, 4);
        due("onto itself", x.shift(0, 0, 0, 0, 5), 5);
        holds(x, 0, 1, 2, 3, 4, 4);
        due("by two", x.shift(0, 0, 0, 2, 3), 3);
        holds(x, 0, 1, 2, 1, 2, 3);
    }

    private static void shiftRefusals() {
        Check.says(36, "BAD, -11 (either), -12 (no ROWS, or of unlike sorts), -13");
        OtherSide x = shelves(BYTES);
        int[] none = {LEAST, -1, 6, MOST};
        for (int shelf : none) {
            due("from shelf " + shelf, x.shift(shelf, 0, 0, 0, 1), BAD);
            due("to shelf " + shelf, x.shift(0, 0, shelf, 0, 1), BAD);
            due("from nothing to shelf " + shelf, x.shift(4, 0, shelf, 0, 1), BAD);
            due("from shelf " + shelf + " to nothing", x.shift(shelf, 0, 4, 0, 1), BAD);
        }
        holds(x, 0, 1, 0, 1, 0, 1);
    }

    private static void shiftNothing() {
        Check.says(36, "-11 (either),");
        OtherSide x = shelves(BYTES);
        due("from nothing", x.shift(4, 0, 0, 0, 1), -11);
        due("to nothing", x.shift(0, 0, 4, 0, 1), -11);
        due("from nothing to nothing", x.shift(4, 0, 5, 0, 1), -11);
        due("from a body to nothing", x.shift(3, 0, 4, 0, 1), -11);
        due("from nothing to a body", x.shift(4, 0, 3, 0, 1), -11);
        due("none of nothing", x.shift(4, 0, 4, 0, 0), -11);
    }

    private static void shiftUnlike() {
        Check.says(36, "-12 (no ROWS, or of unlike sorts),");
        for (int sort = 0; sort < 5; sort++) {
            OtherSide x = shelves(sort);
            due("from a body", x.shift(3, 0, 0, 0, 1), -12);
            due("to a body", x.shift(0, 0, 3, 0, 1), -12);
            due("a body to itself", x.shift(3, 0, 3, 0, 0), -12);
            due("to another sort", x.shift(0, 0, 2, 0, 1), -12);
            due("from another sort", x.shift(2, 0, 0, 0, 1), -12);
            due("none to another sort", x.shift(0, 0, 2, 0, 0), -12);
            holds(x, 2, 0, 0, 0, 0, 0);
            holds(x, 0, 1, 0, 1, 0, 1);
        }
    }

    private static void shiftPlaces() {
        Check.says(36, "-13 (n below 0, too;");
        OtherSide x = shelves(LONGS);
        int[][] none = {{0, 0, -1}, {0, 0, LEAST}, {2, 2, -2}, {5, 3, -1}, {-1, 0, 1}, {0, -1, 1}, {LEAST, 0, 1},
            {0, LEAST, 1}, {0, 0, 4}, {3, 0, 3}, {5, 0, 1}, {0, 3, 1}, {0, 1, 3}, {MOST, 0, 1}, {0, MOST, 1},
            {0, 0, MOST}, {1, 1, MOST}, {MOST, MOST, MOST}, {MOST - 1, 0, 2}};
        for (int[] p : none) {
            due("from " + p[0] + " to " + p[1] + ", " + p[2] + " of them", x.shift(0, p[0], 1, p[1], p[2]), -13);
        }
        holds(x, 0, 1, 0, 1, 0, 1);
        holds(x, 1, 0, 0, 0);
        due("over its own end", x.shift(0, 0, 0, 1, 5), -13);
        due("the most that fit", x.shift(0, 2, 1, 0, 3), 3);
    }

    private static void shiftNone() {
        Check.says(36, "with n 0, too, if i or j is above how many there are).");
        OtherSide x = shelves(SHORTS);
        due("from the end to the end", x.shift(0, 5, 1, 3, 0), 0);
        due("from 0 to 0", x.shift(0, 0, 1, 0, 0), 0);
        due("from above", x.shift(0, 6, 1, 0, 0), -13);
        due("to above", x.shift(0, 0, 1, 4, 0), -13);
        due("from far above", x.shift(0, MOST, 1, 0, 0), -13);
        due("to far above", x.shift(0, 0, 1, MOST, 0), -13);
        due("from below", x.shift(0, -1, 1, 0, 0), -13);
        due("to below", x.shift(0, 0, 1, -1, 0), -13);
        x.row(5, SHORTS, 0);
        due("of a row of none", x.shift(5, 0, 5, 0, 0), 0);
        due("one of a row of none", x.shift(5, 0, 0, 0, 1), -13);
    }

    private static void shiftNamedFirst() {
        Check.says(36, "BAD, -11 (either), -12 (no ROWS, or of unlike sorts), -13");
        OtherSide x = shelves(INTS);
        due("no shelf, no place", x.shift(6, -1, 0, 0, -1), BAD);
        due("nothing, no place", x.shift(4, -1, 0, 0, -1), -11);
        due("a body, no place", x.shift(3, -1, 0, 0, -1), -12);
        due("another sort, no place", x.shift(0, -1, 2, 0, -1), -12);
        due("no place", x.shift(0, -1, 1, 0, -1), -13);
    }

    // ---- promise 37

    private static void takenForAKind() {
        Check.says(37, "What a SHELF holds, taken for a BODY of KIND k (0 .. 7), or under it: its KIND.");
        OtherSide x = new OtherSide();
        for (int kind = 0; kind < 8; kind++) {
            x.keep(5, x.body(kind));
            due("for its own kind", x.taken(5, kind), kind);
            due("for a HAT", x.taken(5, 0), kind);
            due("for kind 8", x.taken(5, 8), BAD);
            due("for kind -1", x.taken(5, -1), BAD);
        }
        x.keep(0, 5);
        due("a witness for a test", x.taken(0, 3), 5);
        due("a witness for an urn", x.taken(0, 2), 5);
        due("a witness for a say", x.taken(0, 4), -12);
        x.keep(0, 3);
        due("a test for a witness under it", x.taken(0, 5), -12);
        x.keep(0, 0);
        for (int k = 1; k < 8; k++) {
            due("a hat for kind " + k, x.taken(0, k), -12);
        }
    }

    private static void takenRefusals() {
        Check.says(37, "BAD, -11, -12.");
        OtherSide x = new OtherSide();
        x.row(1, BYTES, 5);
        int[] none = {LEAST, -1, 6, MOST};
        for (int shelf : none) {
            due("shelf " + shelf, x.taken(shelf, 0), BAD);
        }
        int[] kinds = {LEAST, -1, 8, MOST};
        for (int k : kinds) {
            due("nothing for kind " + k, x.taken(0, k), BAD);
            due("a row for kind " + k, x.taken(1, k), BAD);
        }
        due("nothing", x.taken(0, 7), -11);
        due("a row", x.taken(1, 7), -12);
    }

    // ---- promise 38

    private static void countsEach() {
        Check.says(38, "How many: 0 CARDS, 1 laid aside, 2 bytes on THE TAPE, 3 changes that may be UNDONE, 4 BODIES, "
            + "5 bodies that ran in the latest act() (all, kept or not).");
        OtherSide x = new OtherSide();
        for (int what = 0; what < 6; what++) {
            due("at first, count(" + what + ")", x.count(what), 0);
        }
        x.card(2);
        x.card(110);
        x.draw(0);
        Check.feed(x, "123");
        x.mend(0, 3, 2);
        x.mend(0, 3, 3);
        x.mend(0, 3, 4);
        x.mend(0, 3, 5);
        x.undo();
        for (int i = 0; i < 5; i++) {
            x.body(5);
        }
        x.act(4, 3, 0);
        int[] want = {2, 1, 3, 3, 5, 10};
        for (int what = 0; what < 6; what++) {
            due("count(" + what + ")", x.count(what), want[what]);
        }
    }

    private static void countsAtTheirMost() {
        Check.says(38, "How many: 0 CARDS, 1 laid aside, 2 bytes on THE TAPE, 3 changes that may be UNDONE, 4 BODIES,");
        OtherSide x = new OtherSide();
        for (int i = 0; i < 9; i++) {
            x.card(9);
        }
        for (int i = 0; i < 73; i++) {
            x.draw(i);
        }
        for (int i = 0; i < 121; i++) {
            x.feed('1');
        }
        for (int i = 0; i < 41; i++) {
            x.mend(0, 7, 11 + i);
        }
        for (int i = 0; i < 51; i++) {
            x.body(0);
        }
        int[] want = {8, 72, 120, 40, 50, 0};
        for (int what = 0; what < 6; what++) {
            due("count(" + what + ")", x.count(what), want[what]);
        }
        x.mend(0, 0, 1);
        x.draw(0);
        due("more than 72 aside", x.count(1), 73);
    }

    private static void countOfNone() {
        Check.says(38, "BAD.");
        OtherSide x = new OtherSide();
        int[] none = {LEAST, -1, 6, 7, MOST};
        for (int what : none) {
            due("count(" + what + ")", x.count(what), BAD);
        }
    }
}
