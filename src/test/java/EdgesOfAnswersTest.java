import java.util.List;

/** The edges that the document names of all answers and of an object's use, sentence by sentence. */
public final class EdgesOfAnswersTest {
    private static final int BAD = OtherSide.BAD, NOT = OtherSide.NOT, FULL = OtherSide.FULL, STATE = OtherSide.STATE,
        VOID = OtherSide.VOID;
    private static final long NONE = Long.MIN_VALUE;
    private static final int LEAST = Integer.MIN_VALUE, MOST = Integer.MAX_VALUE;

    private interface Call {
        long on(OtherSide x);
    }

    private interface State {
        OtherSide made();
    }

    public static void main(String[] args) {
        numbersOfAnswers();
        refusedCards();
        refusedThings();
        refusedShowings();
        refusedOdds();
        refusedDrawings();
        refusedActs();
        refusedRows();
        refusedShifts();
        refusedOfANewObject();
        refusedOfAFullOne();
        emptyHat();
        changesNothing();
        namedFirst();
        memoryOfItsOwn();
        fiveHundredAndTwelveCalls();
        Check.end("EdgesOfAnswersTest");
    }

    private static void due(String call, long got, long want) {
        Check.due(call, got, want);
    }

    // ---- states to be refused in

    /** Something of everything; shelf 0 bytes, 1 shorts, 2 a body, 3 four bytes, 4 nothing, 5 a byte that is no colour. */
    private static OtherSide usual() {
        OtherSide x = new OtherSide();
        x.card(12);
        x.card(233);
        x.card(551);
        Check.law(x, "s+n");
        Check.feed(x, "a;2");
        x.draw(1);
        x.image();
        x.draw(2);
        for (int i = 1; i <= 6; i++) {
            x.mend(i % 3, 3 + i % 2, 2 + i);
        }
        x.undo();
        x.undo();
        x.body(0);
        x.body(4);
        x.body(5);
        Check.bytes(x, 0, 0, 1, 2);
        x.row(1, 1, 3);
        x.put(1, 1, 300);
        x.keep(2, 2);
        Check.bytes(x, 3, 0, 0, 0, 0);
        Check.bytes(x, 5, 6);
        x.act(2, 3, 1);
        return x;
    }

    /** Eight cards, a full tape, fifty bodies. */
    private static OtherSide full() {
        OtherSide x = new OtherSide();
        for (int i = 0; i < 8; i++) {
            x.card(i % 6 * 100 + 1);
        }
        for (int i = 0; i < 120; i++) {
            x.feed(i % 2 == 0 ? '2' : i < 119 ? '-' : '3');
        }
        for (int i = 0; i < 50; i++) {
            x.body(i % 8);
        }
        return x;
    }

    /** Cards of which none is in the hat; no image, no change. */
    private static OtherSide empty() {
        OtherSide x = new OtherSide();
        x.card(120);
        x.card(341);
        x.draw(0);
        return x;
    }

    private static void refused(State state, String name, long want, Call call) {
        OtherSide x = state.made();
        List<Long> before = Seen.all(state.made());
        due(name, call.on(x), want);
        due(name + " again", call.on(x), want);
        Check.so(name + " changes nothing", before.equals(Seen.all(x)));
    }

    private static void refused(String name, long want, Call call) {
        refused(EdgesOfAnswersTest::usual, name, want, call);
    }

    // ---- answers

    private static void numbersOfAnswers() {
        Check.says(0, "Answers, of several the one named first: BAD (-1): no such number, or it is not as said; "
            + "NOT (-2): as told; FULL (-3); STATE (-5): as told; -11 to -14. VOID is -2000000000.");
        due("BAD", OtherSide.BAD, -1);
        due("NOT", OtherSide.NOT, -2);
        due("FULL", OtherSide.FULL, -3);
        due("STATE", OtherSide.STATE, -5);
        due("VOID", OtherSide.VOID, -2000000000);
        due("bad", new OtherSide().card(-1), -1);
        due("not", new OtherSide().of(0, 14), -2);
        due("full", full().card(0), -3);
        due("state", new OtherSide().draw(0), -5);
        due("void", new OtherSide().sure(3), -2000000000);
        due("nothing", new OtherSide().taken(0, 0), -11);
        due("of another kind", usual().taken(0, 0), -12);
        due("no place", usual().put(0, 3, 0), -13);
        due("below 0", new OtherSide().row(0, 0, -1), -14);
    }

    private static void refusedCards() {
        Check.says(0, "What is answered so changes nothing.");
        refused("card(-1)", BAD, x -> x.card(-1));
        refused("card(60)", BAD, x -> x.card(60));
        refused("card(600)", BAD, x -> x.card(600));
        refused("cards(6, 0, 1)", BAD, x -> x.cards(6, 0, 1));
        refused("cards(0, 0, 0)", BAD, x -> x.cards(0, 0, 0));
        refused("cards(0, 0, 9)", BAD, x -> x.cards(0, 0, 9));
        refused("cards(1, 0, 1)", -12, x -> x.cards(1, 0, 1));
        refused("cards(2, 0, 1)", -12, x -> x.cards(2, 0, 1));
        refused("cards(0, -1, 1)", 0, x -> x.cards(0, -1, 1));
        refused("cards(4, 0, 1)", 0, x -> x.cards(4, 0, 1));
        refused("cards(5, 0, 1)", 0, x -> x.cards(5, 0, 1));
    }

    private static void refusedThings() {
        Check.says(0, "What is answered so changes nothing.");
        refused("mend(0, 0, 10)", BAD, x -> x.mend(0, 0, 10));
        refused("mend(3, 0, 1)", BAD, x -> x.mend(3, 0, 1));
        refused("mend(0, 1, 6)", BAD, x -> x.mend(0, 1, 6));
        refused("mend(0, 3, -1)", BAD, x -> x.mend(0, 3, -1));
        refused("mend(4, 3, 0)", BAD, x -> x.mend(4, 3, 0));
        refused("mend(1, 9, 0)", BAD, x -> x.mend(1, 9, 0));
        refused("mend(0, 12, 0)", BAD, x -> x.mend(0, 12, 0));
        refused("mend(0, -1, 0)", BAD, x -> x.mend(0, -1, 0));
        refused("of(3, 0)", BAD, x -> x.of(3, 0));
        refused("of(0, 16)", BAD, x -> x.of(0, 16));
        refused("feed(-1)", BAD, x -> x.feed(-1));
        refused("feed(256)", BAD, x -> x.feed(256));
        refused("weight(3, 0)", BAD, x -> x.weight(3, 0));
        refused("weight(0, 2)", BAD, x -> x.weight(0, 2));
    }

    private static void refusedShowings() {
        Check.says(0, "What is answered so changes nothing.");
        refused("shown(6, 0)", NONE, x -> x.shown(6, 0));
        refused("shown(0, 2)", NONE, x -> x.shown(0, 2));
        refused("other(6, 0)", NONE, x -> x.other(6, 0));
        refused("which(3, 1, 0)", NONE, x -> x.which(3, 1, 0));
        refused("which(0, 5, 0)", NONE, x -> x.which(0, 5, 0));
        refused("again(0, 0)", NONE, x -> x.again(0, 0));
        refused("cheated(6)", BAD, x -> x.cheated(6));
        refused("cheated(3)", BAD, x -> x.cheated(3));
        refused("cheated(5)", BAD, x -> x.cheated(5));
        refused("cheated(4)", -11, x -> x.cheated(4));
        refused("cheated(1)", -12, x -> x.cheated(1));
        refused("cheated(2)", -12, x -> x.cheated(2));
        refused("judge(-1)", BAD, x -> x.judge(-1));
        refused("judge(4)", -11, x -> x.judge(4));
        refused("judge(1)", -12, x -> x.judge(1));
        refused("judge(2)", -12, x -> x.judge(2));
    }

    private static void refusedOdds() {
        Check.says(0, "What is answered so changes nothing.");
        refused("handed(0, 0, 0)", NONE, x -> x.handed(0, 0, 0));
        refused("handed(1, 2, 0)", NONE, x -> x.handed(1, 2, 0));
        refused("ill(16, 0)", NONE, x -> x.ill(16, 0));
        refused("order(4, 0)", NONE, x -> x.order(4, 0));
        refused("isSo(64, 0)", NONE, x -> x.isSo(64, 0));
        refused("tooMany(64, 0)", NONE, x -> x.tooMany(64, 0));
        refused("next(100, 0)", NONE, x -> x.next(100, 0));
        refused("sure(3)", VOID, x -> x.sure(3));
        refused("sure(-1)", NOT, x -> x.sure(-1));
    }

    private static void refusedDrawings() {
        Check.says(0, "What is answered so changes nothing.");
        refused("drawn(0, 0, 0)", BAD, x -> x.drawn(0, 0, 0));
        refused("drawn(0, 61, 0)", BAD, x -> x.drawn(0, 61, 0));
        refused("drawn(0, 1, 2)", BAD, x -> x.drawn(0, 1, 2));
        refused(EdgesOfAnswersTest::empty, "drawn(0, 1, 0)", STATE, x -> x.drawn(0, 1, 0));
        refused(EdgesOfAnswersTest::empty, "draw(0)", STATE, x -> x.draw(0));
        refused(EdgesOfAnswersTest::empty, "back()", STATE, x -> x.back());
        refused(EdgesOfAnswersTest::empty, "undo()", STATE, x -> x.undo());
        refused(EdgesOfAnswersTest::empty, "redo()", STATE, x -> x.redo());
    }

    private static void refusedActs() {
        Check.says(0, "What is answered so changes nothing.");
        refused("body(8)", BAD, x -> x.body(8));
        refused("body(-1)", BAD, x -> x.body(-1));
        refused("trace(10)", BAD, x -> x.trace(10));
        refused("trace(-1)", BAD, x -> x.trace(-1));
        refused("keep(0, 3)", BAD, x -> x.keep(0, 3));
        refused("keep(2, -2)", BAD, x -> x.keep(2, -2));
        refused("keep(6, -1)", BAD, x -> x.keep(6, -1));
        refused("taken(6, 0)", BAD, x -> x.taken(6, 0));
        refused("taken(2, 8)", BAD, x -> x.taken(2, 8));
        refused("taken(4, 0)", -11, x -> x.taken(4, 0));
        refused("taken(0, 0)", -12, x -> x.taken(0, 0));
        refused("taken(2, 4)", -12, x -> x.taken(2, 4));
        refused("count(6)", BAD, x -> x.count(6));
        refused("count(-1)", BAD, x -> x.count(-1));
    }

    private static void refusedRows() {
        Check.says(0, "What is answered so changes nothing.");
        refused("row(6, 0, 1)", BAD, x -> x.row(6, 0, 1));
        refused("row(0, 5, 1)", BAD, x -> x.row(0, 5, 1));
        refused("row(0, 0, 61)", BAD, x -> x.row(0, 0, 61));
        refused("row(0, 0, -1)", -14, x -> x.row(0, 0, -1));
        refused("row(2, 3, -1)", -14, x -> x.row(2, 3, -1));
        refused("put(6, 0, 5)", BAD, x -> x.put(6, 0, 5));
        refused("put(4, 0, 5)", -11, x -> x.put(4, 0, 5));
        refused("put(2, 0, 5)", -12, x -> x.put(2, 0, 5));
        refused("put(0, 3, 5)", -13, x -> x.put(0, 3, 5));
        refused("put(0, -1, 5)", -13, x -> x.put(0, -1, 5));
        refused("element(6, 0)", NONE, x -> x.element(6, 0));
        refused("element(4, 0)", NONE, x -> x.element(4, 0));
        refused("element(2, 0)", NONE, x -> x.element(2, 0));
        refused("element(0, 3)", NONE, x -> x.element(0, 3));
    }

    private static void refusedShifts() {
        Check.says(0, "What is answered so changes nothing.");
        refused("shift(0, 0, 6, 0, 1)", BAD, x -> x.shift(0, 0, 6, 0, 1));
        refused("shift(0, 0, 4, 0, 1)", -11, x -> x.shift(0, 0, 4, 0, 1));
        refused("shift(0, 0, 2, 0, 1)", -12, x -> x.shift(0, 0, 2, 0, 1));
        refused("shift(0, 0, 1, 0, 1)", -12, x -> x.shift(0, 0, 1, 0, 1));
        refused("shift(0, 0, 3, 2, 3)", -13, x -> x.shift(0, 0, 3, 2, 3));
        refused("shift(0, 1, 3, 0, 3)", -13, x -> x.shift(0, 1, 3, 0, 3));
        refused("shift(0, 0, 3, 0, -1)", -13, x -> x.shift(0, 0, 3, 0, -1));
        refused("shift(0, 4, 3, 0, 0)", -13, x -> x.shift(0, 4, 3, 0, 0));
    }

    private static void refusedOfANewObject() {
        Check.says(0, "What is answered so changes nothing.");
        refused(OtherSide::new, "drawn(0, 1, 0)", STATE, x -> x.drawn(0, 1, 0));
        refused(OtherSide::new, "draw(0)", STATE, x -> x.draw(0));
        refused(OtherSide::new, "back()", STATE, x -> x.back());
        refused(OtherSide::new, "undo()", STATE, x -> x.undo());
        refused(OtherSide::new, "redo()", STATE, x -> x.redo());
        refused(OtherSide::new, "of(0, 14)", NOT, x -> x.of(0, 14));
        refused(OtherSide::new, "mend(0, 0, 0)", BAD, x -> x.mend(0, 0, 0));
        refused(OtherSide::new, "keep(0, 0)", BAD, x -> x.keep(0, 0));
        refused(OtherSide::new, "law()", -100, x -> x.law());
    }

    private static void refusedOfAFullOne() {
        Check.says(0, "What is answered so changes nothing.");
        refused(EdgesOfAnswersTest::full, "card(0)", FULL, x -> x.card(0));
        refused(EdgesOfAnswersTest::full, "card(60)", BAD, x -> x.card(60));
        refused(EdgesOfAnswersTest::full, "feed('1')", FULL, x -> x.feed('1'));
        refused(EdgesOfAnswersTest::full, "feed(256)", BAD, x -> x.feed(256));
        refused(EdgesOfAnswersTest::full, "body(0)", FULL, x -> x.body(0));
        refused(EdgesOfAnswersTest::full, "body(8)", BAD, x -> x.body(8));
        refused(EdgesOfAnswersTest::full, "mend(8, 0, 1)", BAD, x -> x.mend(8, 0, 1));
        refused(EdgesOfAnswersTest::full, "keep(0, 50)", BAD, x -> x.keep(0, 50));
    }

    private static void emptyHat() {
        Check.says(1, "An empty hat.");
        OtherSide x = new OtherSide();
        Check.so("every new object answers the same", Seen.all(x).equals(Seen.all(new OtherSide())));
    }

    // Looking at all these finds what no look of its own showed: else the test above would tell nothing.
    private static void changesNothing() {
        Check.says(0, "What is answered so changes nothing.");
        Call[] changes = {x -> x.card(0), x -> x.cards(3, 0, 1), x -> x.mend(0, 5, 1), x -> x.feed('1'), x -> x.law(),
            x -> x.draw(0), x -> x.putBack(), x -> x.image(), x -> x.back(), x -> x.undo(), x -> x.redo(), x -> x.body(1),
            x -> x.act(0, 0, 0), x -> x.act(9, 9, 9), x -> x.keep(4, 0), x -> x.keep(0, -1), x -> x.row(0, 0, 3),
            x -> x.put(0, 0, 9), x -> x.shift(0, 1, 0, 0, 2)};
        List<Long> before = Seen.all(usual());
        for (int i = 0; i < changes.length; i++) {
            OtherSide x = usual();
            changes[i].on(x);
            Check.so("a change is seen: " + i, !before.equals(Seen.all(x)));
        }
        Check.so("the same is seen of the same", before.equals(Seen.all(usual())));
    }

    private static void namedFirst() {
        Check.says(0, "Answers, of several the one named first:");
        due("a card that is none, FULL", full().card(600), BAD);
        due("a byte that is none, FULL", full().feed(-1), BAD);
        due("a kind that is none, FULL", full().body(8), BAD);
        due("drawn none of an empty hat", empty().drawn(0, 0, 0), BAD);
        due("drawn of no colour from an empty hat", empty().drawn(0, 1, 600), BAD);
        due("no cards from a row of shorts", usual().cards(1, 0, 0), BAD);
        due("no shelf and a size below 0", usual().row(6, 0, -1), BAD);
        due("no sort and a size below 0", usual().row(0, 5, -1), BAD);
        due("no shelf and no place", usual().put(6, 60, 0), BAD);
        due("nothing and no place", usual().put(4, 60, 0), -11);
        due("a body and no place", usual().put(2, 60, 0), -12);
        due("nothing and no shelf", usual().shift(4, 0, 6, 0, 0), BAD);
        due("a body and nothing", usual().shift(2, 0, 4, 0, 0), -11);
        due("unlike sorts and no place", usual().shift(0, 60, 1, 0, 0), -12);
        due("nothing and no kind", usual().taken(4, 8), BAD);
        due("a row and no kind", usual().taken(0, 8), BAD);
        due("four colours, of which none is made likely", usual().cheated(3), BAD);
    }

    private static void memoryOfItsOwn() {
        Check.says(0, "All memory is the class's own.");
        OtherSide x = usual();
        List<Long> before = Seen.all(usual());
        full();
        empty();
        Seen.all(usual());
        Check.so("another object changes nothing of it", before.equals(Seen.all(x)));
        Check.so("nor of a new one", Seen.all(new OtherSide()).equals(Seen.all(new OtherSide())));
        due("a new one has no cards", new OtherSide().count(0), 0);
    }

    private static void fiveHundredAndTwelveCalls() {
        Check.says(0, "An object is used for at most 512 calls after it has been made; what later calls answer is free.");
        OtherSide x = new OtherSide();
        for (int call = 1; call <= 512; call++) {
            int was = call == 1 ? 10 : (call - 1) % 100;
            due("mend at call " + call, x.mend(0, 7, call % 100), was);
        }
        OtherSide y = new OtherSide();
        y.card(119);
        for (int call = 2; call <= 510; call += 2) {
            due("draw at call " + call, y.draw(call * 7919), 11);
            due("put back at call " + (call + 1), y.putBack(), 1);
        }
        due("the last call", y.of(1, 13), 255);
        OtherSide z = new OtherSide();
        for (int call = 1; call <= 511; call++) {
            z.row(call % 6, call % 5, 60);
        }
        due("the last call", z.put(1, 59, MOST), 1);
        OtherSide last = new OtherSide();
        for (int call = 1; call <= 511; call++) {
            last.act(call, call, LEAST);
        }
        due("the last call", last.sure(-1), NOT);
    }
}
