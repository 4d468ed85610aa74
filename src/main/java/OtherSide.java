/**
 * A hat of cards with two sides, urns, tests, witnesses and bets: how likely a thing is by what
 * was shown or told, drawings by seeds, changes undone, and bodies and rows on shelves.
 */
public final class OtherSide {
    public static final int BAD = -1, NOT = -2, FULL = -3, STATE = -5, VOID = -2000000000;

    private static final int MISSING = -11, UNLIKE = -12, NO_PLACE = -13, BELOW_NOTHING = -14;
    private static final long NONE = Long.MIN_VALUE;

    private static final int MANY = 0, FIRST = 1, SECOND = 2, RED = 3, WHITE = 4, FOR_ILL = 5, FOR_WELL = 6,
            PRICE = 7, LIES = 8, ILL = 9, BEFORE = 10, QUOTE = 11;

    private static final int CARDS = 8, COLOURS = 6, URNS = 4, TESTS = 4, WITNESSES = 6, OUTCOMES = 3;
    private static final int TAPE = 120, SHELVES = 6, LONGEST_ROW = 60, BYTES = 0;
    private static final int MOST_SHOWN = 3, MOST_TIMES = 4, MOST_DRAWN = 60;

    private final Things things = new Things();
    private final Law law = new Law();
    private final Showings showings = new Showings();
    private final Odds odds = new Odds();
    private final Drawings drawings = new Drawings();
    private final Acts acts = new Acts();
    private final Shelf[] shelves = new Shelf[SHELVES];
    private final int[] tape = new int[TAPE];
    private int taped;

    public OtherSide() {
        for (int i = 0; i < SHELVES; i++) {
            shelves[i] = new Shelf();
        }
    }

    // ---- cards, urns, tests, witnesses

    public int card(int abm) {
        if (abm < 0 || !Things.mayBeCard(abm / 100, abm / 10 % 10, abm % 10)) {
            return BAD;
        }
        return things.addCard(abm / 100, abm / 10 % 10, abm % 10);
    }

    public int cards(int shelf, int i, int n) {
        if (!within(shelf, SHELVES) || n < 1 || n > CARDS) {
            return BAD;
        }
        Shelf held = shelves[shelf];
        if (held.holds == Shelf.NOTHING) {
            return 0;
        }
        if (!held.isRowOf(BYTES)) {
            return UNLIKE;
        }
        return i < 0 ? 0 : cardsFrom(held, i, n);
    }

    private int cardsFrom(Shelf held, int i, int n) {
        int came = 0;
        int at = i;
        while (came < n && at <= held.length - 3 && things.cards < CARDS) {
            int a = (int) held.elements[at];
            int b = (int) held.elements[at + 1];
            int m = (int) held.elements[at + 2];
            if (!Things.mayBeCard(a, b, m)) {
                return came;
            }
            things.addCard(a, b, m);
            came++;
            at += 3;
        }
        return came;
    }

    public int mend(int number, int what, int v) {
        if (!things.known(number, what) || v < 0 || v > Things.MOST[what]) {
            return BAD;
        }
        return things.change(number, what, v);
    }

    public int of(int number, int what) {
        if (things.known(number, what)) {
            return things.values[what][number];
        }
        if (what == 12) {
            return within(number, things.cards) ? drawings.aside[number] : BAD;
        }
        if (what == 13) {
            return within(number, COLOURS) ? drawings.led[number] : BAD;
        }
        if (what == 14 && number == 0) {
            return drawings.latest < 0 ? NOT : drawings.latest;
        }
        return what == 15 && number == 0 ? things.inHat() : BAD;
    }

    public int feed(int letter) {
        if (!within(letter, 256)) {
            return BAD;
        }
        if (taped >= TAPE) {
            return FULL;
        }
        tape[taped] = letter;
        taped++;
        return taped;
    }

    public int law() {
        int fault = law.read(tape, taped);
        taped = 0;
        return fault < 0 ? 1 : -100 - fault;
    }

    public int weight(int card, int side) {
        if (!within(card, things.cards) || !within(side, 2)) {
            return BAD;
        }
        showings.weigh(things, law, card);
        return showings.weights[card][side];
    }

    // ---- showings

    public long shown(int c, int part) {
        if (!within(c, COLOURS) || !within(part, 2)) {
            return NONE;
        }
        showings.weighAll(things, law);
        return lowest(showings.likely(things, c, 1), (long) Showings.WHOLE * things.inHat(), part);
    }

    public long other(int cd, int part) {
        if (cd < 0 || !within(cd / 10, COLOURS) || !within(cd % 10, COLOURS) || !within(part, 2)) {
            return NONE;
        }
        showings.weighAll(things, law);
        long both = showings.likelyBoth(things, cd / 10, cd % 10);
        return lowest(both, showings.likely(things, cd / 10, 1), part);
    }

    public long which(int n, int ck, int part) {
        if (!within(n, things.cards) || !mayBeTimes(ck) || !within(part, 2)) {
            return NONE;
        }
        showings.weighAll(things, law);
        long ofThis = showings.likelyOf(things, n, ck / 10, ck % 10);
        return lowest(ofThis, showings.likely(things, ck / 10, ck % 10), part);
    }

    public long again(int ck, int part) {
        if (!mayBeTimes(ck) || !within(part, 2)) {
            return NONE;
        }
        showings.weighAll(things, law);
        long once = showings.likely(things, ck / 10, ck % 10);
        return lowest(showings.likely(things, ck / 10, ck % 10 + 1), once * Showings.WHOLE, part);
    }

    private static boolean mayBeTimes(int ck) {
        return ck >= 0 && within(ck / 10, COLOURS) && ck % 10 >= 1 && ck % 10 <= MOST_TIMES;
    }

    public int cheated(int shelf) {
        int refusal = refusedBytes(shelf);
        if (refusal < 0) {
            return refusal;
        }
        Shelf held = shelves[shelf];
        if (held.length > MOST_SHOWN) {
            return BAD;
        }
        for (int i = 0; i < held.length; i++) {
            if (held.elements[i] < 0 || held.elements[i] >= COLOURS) {
                return BAD;
            }
        }
        showings.weighAll(things, law);
        return showings.mostLikelyMore(things, law, held);
    }

    public int judge(int shelf) {
        int refusal = refusedBytes(shelf);
        if (refusal < 0) {
            return refusal;
        }
        Shelf held = shelves[shelf];
        showings.weighAll(things, law);
        for (int i = 0; i < held.length; i++) {
            long colour = held.elements[i];
            if (colour < 0 || colour >= COLOURS || showings.likely(things, (int) colour, 1) == 0) {
                return i;
            }
        }
        return NOT;
    }

    // Below 0: why a shelf gives no row of bytes.
    private int refusedBytes(int shelf) {
        if (!within(shelf, SHELVES)) {
            return BAD;
        }
        if (shelves[shelf].holds == Shelf.NOTHING) {
            return MISSING;
        }
        return shelves[shelf].isRowOf(BYTES) ? 0 : UNLIKE;
    }

    // ---- urns, tests, witnesses

    public long handed(int u, int what, int part) {
        if (u < 1 || u >= URNS || !within(what, 2) || !within(part, 2)) {
            return NONE;
        }
        int red = things.values[RED][0];
        int white = things.values[WHITE][0];
        long last = odds.redLast(things, u, red, white);
        if (what == 0) {
            return lowest(last, odds.waysToLast(things, u), part);
        }
        return lowest(odds.redLast(things, u, red, 0), last, part);
    }

    public long ill(int told, int part) {
        if (!mayBeTold(told, 1 << TESTS) || !within(part, 2)) {
            return NONE;
        }
        int all = told % (1 << TESTS);
        int sayIll = told / (1 << TESTS);
        long ill = odds.waysIll(things, all, sayIll);
        return lowest(ill, ill + odds.waysWell(things, all, sayIll), part);
    }

    public long order(int k, int part) {
        if (k < -1 || k >= TESTS || !within(part, 2)) {
            return NONE;
        }
        odds.findOrder(things);
        return k < 0 ? lowest(odds.meanPrice(things, odds.order), Odds.PRICE_SCALE, part) : odds.order[k];
    }

    public long isSo(int told, int part) {
        if (!mayBeTold(told, 1 << WITNESSES) || !within(part, 2)) {
            return NONE;
        }
        int all = told % (1 << WITNESSES);
        int saySo = told / (1 << WITNESSES);
        long so = things.values[BEFORE][0] * odds.waysTheySay(things, all, saySo);
        long not = (12 - things.values[BEFORE][0]) * odds.waysTheySay(things, all, all & ~saySo);
        return lowest(so, so + not, part);
    }

    // Told: those that say so, times how many sets there are, and all told ones.
    private static boolean mayBeTold(int told, int sets) {
        return told >= 0 && told / sets < sets && (told / sets & ~(told % sets)) == 0;
    }

    public long tooMany(int told, int part) {
        if (!within(told, 1 << WITNESSES) || !within(part, 2)) {
            return NONE;
        }
        if (told == 0) {
            // None contradicts another: 1 by 1.
            return 1;
        }
        long same = odds.waysTheySay(things, told, told) + odds.waysTheySay(things, told, 0);
        return lowest(same, odds.allWays(told), part);
    }

    public long next(int rn, int part) {
        if (!within(rn, 10000) || rn / 100 > rn % 100 || !within(part, 2)) {
            return NONE;
        }
        return lowest(rn / 100 + 1, rn % 100 + 2, part);
    }

    public int sure(int k) {
        if (k < -1 || k >= OUTCOMES) {
            return VOID;
        }
        int loss = odds.findStakes(things);
        if (k >= 0) {
            return odds.stakes[k];
        }
        return loss > 0 ? loss : NOT;
    }

    // ---- drawings

    public int drawn(int seed, int n, int cdw) {
        int d = cdw / 10 % 10;
        if (n < 1 || n > MOST_DRAWN || cdw < 0 || !within(cdw / 100, COLOURS) || !within(d, COLOURS)
                || !within(cdw % 10, 2)) {
            return BAD;
        }
        if (things.inHat() == 0) {
            return STATE;
        }
        showings.weighAll(things, law);
        drawings.seed = seed;
        int often = 0;
        for (int i = 0; i < n; i++) {
            int card = drawings.pickCard(things);
            int side = drawings.pickSide(showings.weights[card]);
            if (things.colour(card, side) == cdw / 100 && (cdw % 10 == 0 || things.colour(card, 1 - side) == d)) {
                often++;
            }
        }
        return often;
    }

    public int draw(int seed) {
        if (things.inHat() == 0) {
            return STATE;
        }
        showings.weighAll(things, law);
        drawings.seed = seed;
        int card = drawings.pickCard(things);
        int side = drawings.pickSide(showings.weights[card]);
        int colour = things.colour(card, side);
        drawings.layAside(things, card, colour);
        return 10 * colour + things.colour(card, 1 - side);
    }

    public int putBack() {
        return drawings.layAllBack(things);
    }

    public int image() {
        drawings.keepImage(things);
        return things.inHat();
    }

    public int back() {
        if (!drawings.hasImage()) {
            return STATE;
        }
        drawings.takeImage(things);
        return things.inHat();
    }

    public int undo() {
        return things.takeChangeBack() ? things.done : STATE;
    }

    public int redo() {
        return things.doChangeAgain() ? things.undone : STATE;
    }

    // ---- acts, shelves

    public int body(int kind) {
        if (!within(kind, Acts.KINDS)) {
            return BAD;
        }
        return acts.addBody(kind);
    }

    public int act(int body, int act, int x) {
        return acts.perform(body, act, x);
    }

    public int trace(int i) {
        return within(i, Math.min(acts.ran, Acts.TRACED)) ? acts.trace[i] : BAD;
    }

    public int keep(int shelf, int body) {
        if (!within(shelf, SHELVES) || body < -1 || body >= acts.bodies) {
            return BAD;
        }
        shelves[shelf].holds = body < 0 ? Shelf.NOTHING : Shelf.BODY;
        shelves[shelf].body = body;
        return 1;
    }

    public int row(int shelf, int sort, int n) {
        if (!within(shelf, SHELVES) || !within(sort, Shelf.SORTS) || n > LONGEST_ROW) {
            return BAD;
        }
        if (n < 0) {
            return BELOW_NOTHING;
        }
        shelves[shelf].becomeRow(sort, n);
        return 1;
    }

    public int put(int shelf, int i, long v) {
        int refusal = refusedElement(shelf, i);
        if (refusal < 0) {
            return refusal;
        }
        Shelf held = shelves[shelf];
        held.elements[i] = Shelf.kept(held.sort, v);
        return 1;
    }

    public long element(int shelf, int i) {
        // -11 to -13 may stand in a row themselves, so every refusal answers the same.
        if (refusedElement(shelf, i) < 0) {
            return NONE;
        }
        return shelves[shelf].elements[i];
    }

    // Below 0: why a shelf gives no element i.
    private int refusedElement(int shelf, int i) {
        if (!within(shelf, SHELVES)) {
            return BAD;
        }
        Shelf held = shelves[shelf];
        if (held.holds == Shelf.NOTHING) {
            return MISSING;
        }
        if (held.holds != Shelf.ROW) {
            return UNLIKE;
        }
        return within(i, held.length) ? 0 : NO_PLACE;
    }

    public int shift(int shelf, int i, int other, int j, int n) {
        if (!within(shelf, SHELVES) || !within(other, SHELVES)) {
            return BAD;
        }
        Shelf from = shelves[shelf];
        Shelf to = shelves[other];
        if (from.holds == Shelf.NOTHING || to.holds == Shelf.NOTHING) {
            return MISSING;
        }
        if (from.holds != Shelf.ROW || !to.isRowOf(from.sort)) {
            return UNLIKE;
        }
        if (!from.spans(i, n) || !to.spans(j, n)) {
            return NO_PLACE;
        }
        System.arraycopy(from.elements, i, to.elements, j, n);
        return n;
    }

    public int taken(int shelf, int k) {
        if (!within(shelf, SHELVES) || !within(k, Acts.KINDS)) {
            return BAD;
        }
        Shelf held = shelves[shelf];
        if (held.holds == Shelf.NOTHING) {
            return MISSING;
        }
        if (held.holds != Shelf.BODY || !within(held.body, acts.bodies)) {
            return UNLIKE;
        }
        int kind = acts.kinds[held.body];
        return Acts.isUnder(kind, k) ? kind : UNLIKE;
    }

    public int count(int what) {
        switch (what) {
            case 0: return things.cards;
            case 1: return drawings.allAside();
            case 2: return taped;
            case 3: return things.done;
            case 4: return acts.bodies;
            case 5: return acts.ran;
            default: return BAD;
        }
    }

    // ---- what all use

    private static boolean within(int i, int bound) {
        return i >= 0 && i < bound;
    }

    // One part of a chance in lowest terms; 0 by 1 if what is known cannot be.
    private static long lowest(long above, long below, int part) {
        if (above <= 0 || below <= 0) {
            return part == 0 ? 0 : 1;
        }
        long common = commonDivisor(above, below);
        return (part == 0 ? above : below) / common;
    }

    private static long commonDivisor(long one, long another) {
        long greater = one;
        long less = another;
        for (int step = 0; step < 200 && less != 0; step++) {
            long rest = greater % less;
            greater = less;
            less = rest;
        }
        return greater < 1 ? 1 : greater;
    }

    /** All that mend() changes, by what and number, and the changes that can be undone. */
    private static final class Things {
        private static final int[] NUMBERS = {8, 8, 8, 4, 4, 4, 4, 4, 6, 1, 1, 3};
        private static final int[] MOST = {9, 5, 5, 9, 9, 12, 12, 99, 12, 99, 12, 12};
        private static final int[] AT_FIRST = {0, 0, 0, 1, 1, 9, 9, 10, 3, 10, 2, 4};
        private static final int WHATS = 12, KEPT = 40;

        private final int[][] values = new int[WHATS][CARDS];
        private int cards;
        // A ring of changes from the oldest one on: those done, then those undone.
        private final int[] number = new int[KEPT];
        private final int[] what = new int[KEPT];
        private final int[] was = new int[KEPT];
        private final int[] became = new int[KEPT];
        private int oldest;
        private int done;
        private int undone;

        private Things() {
            for (int w = 0; w < WHATS; w++) {
                for (int i = 0; i < NUMBERS[w]; i++) {
                    values[w][i] = AT_FIRST[w];
                }
            }
        }

        static boolean mayBeCard(int a, int b, int m) {
            return within(a, COLOURS) && within(b, COLOURS) && within(m, MOST[MANY] + 1);
        }

        int addCard(int a, int b, int m) {
            if (cards >= CARDS) {
                return FULL;
            }
            values[FIRST][cards] = a;
            values[SECOND][cards] = b;
            values[MANY][cards] = m;
            cards++;
            return cards - 1;
        }

        boolean known(int number, int what) {
            return within(what, WHATS) && within(number, what <= SECOND ? cards : NUMBERS[what]);
        }

        int colour(int card, int side) {
            return values[side == 0 ? FIRST : SECOND][card];
        }

        int inHat() {
            int all = 0;
            for (int i = 0; i < cards; i++) {
                all += values[MANY][i];
            }
            return all;
        }

        // A card mended while some of it were laid aside may have no place for them all.
        void putInHat(int card, int more) {
            values[MANY][card] = Math.min(MOST[MANY], values[MANY][card] + more);
        }

        // What the value was; one that stays as it is has not changed, and those undone stay to be done again.
        int change(int number, int what, int v) {
            int former = values[what][number];
            if (v != former) {
                keepChange(number, what, former, v);
                values[what][number] = v;
            }
            return former;
        }

        private void keepChange(int number, int what, int former, int v) {
            if (done == KEPT) {
                oldest = (oldest + 1) % KEPT;
                done--;
            }
            int at = (oldest + done) % KEPT;
            this.number[at] = number;
            this.what[at] = what;
            was[at] = former;
            became[at] = v;
            done++;
            undone = 0;
        }

        boolean takeChangeBack() {
            if (done == 0) {
                return false;
            }
            done--;
            undone++;
            int at = (oldest + done) % KEPT;
            values[what[at]][number[at]] = was[at];
            return true;
        }

        boolean doChangeAgain() {
            if (undone == 0) {
                return false;
            }
            int at = (oldest + done) % KEPT;
            values[what[at]][number[at]] = became[at];
            done++;
            undone--;
            return true;
        }
    }

    /** The law told as a text: read once into signs behind their operands, worked out for each side. */
    private static final class Law {
        // A line's end in the code: its value counts, or counts if the value ahead of it is not 0.
        private static final int ALWAYS = ';', WHEN = '?';
        // Only the code has this sign: a minus ahead of one operand.
        private static final int MINUS = '_';
        private static final int COMPARING = 2, TIGHTEST = 4, MOST_OPEN = 6, MOST_DIGITS = 4;

        // A number from 0 on stands for itself, a sign for its negative.
        private int[] code = new int[TAPE + 8];
        private int size;
        private int[] nextCode = new int[TAPE + 8];
        private int nextSize;
        private final int[] text = new int[TAPE];
        private int length;
        private int place;
        private int fault;
        private final int[] stack = new int[TAPE + 8];
        private int top;
        private int a, b, n, m, s;

        boolean stands() {
            return size > 0;
        }

        // Below 0, or the place of the fault, and the law stays what it was.
        int read(int[] tape, int taped) {
            length = Math.min(taped, TAPE);
            System.arraycopy(tape, 0, text, 0, length);
            place = 0;
            fault = -1;
            nextSize = 0;
            readLine();
            for (int lines = 0; lines < length && fault < 0 && place < length; lines++) {
                if (takes(';')) {
                    readLine();
                } else {
                    fail();
                }
            }
            if (fault < 0) {
                int[] former = code;
                code = nextCode;
                size = nextSize;
                nextCode = former;
            }
            return fault;
        }

        private void readLine() {
            readJoined(0, 0);
            if (takes(WHEN)) {
                readJoined(0, 0);
                emit(-WHEN);
            } else {
                emit(-ALWAYS);
            }
        }

        // Operands of one level joined by its signs: the levels bind tighter from 0 on.
        private void readJoined(int level, int open) {
            readTighter(level, open);
            for (int turn = 0; turn < length && joins(level, sign()); turn++) {
                int sign = sign();
                place++;
                readTighter(level, open);
                emit(-sign);
                if (level == COMPARING) {
                    return;
                }
            }
        }

        private void readTighter(int level, int open) {
            if (level < TIGHTEST) {
                readJoined(level + 1, open);
            } else {
                readOperand(open);
            }
        }

        private static boolean joins(int level, int sign) {
            switch (level) {
                case 0: return sign == '|';
                case 1: return sign == '&';
                case COMPARING: return sign == '<' || sign == '=' || sign == '>';
                case 3: return sign == '+' || sign == '-';
                default: return sign == '*' || sign == '/' || sign == '%';
            }
        }

        private void readOperand(int open) {
            int sign = sign();
            if (isDigit(sign)) {
                readNumber();
            } else if (sign == 'a' || sign == 'b' || sign == 'n' || sign == 'm' || sign == 's') {
                place++;
                emit(-sign);
            } else if (open >= MOST_OPEN) {
                fail();
            } else if (takes('(')) {
                readJoined(0, open + 1);
                if (!takes(')')) {
                    fail();
                }
            } else if (takes('!')) {
                readBehind('!', open);
            } else if (takes('-')) {
                readBehind(MINUS, open);
            } else {
                fail();
            }
        }

        private void readBehind(int sign, int open) {
            readOperand(open + 1);
            emit(-sign);
        }

        private void readNumber() {
            int value = 0;
            for (int digits = 0; digits < MOST_DIGITS && isDigit(sign()); digits++) {
                value = value * 10 + sign() - '0';
                place++;
            }
            emit(value);
        }

        private static boolean isDigit(int sign) {
            return sign >= '0' && sign <= '9';
        }

        // The byte that is next; -1 at the end, and behind a fault, where nothing goes on.
        private int sign() {
            return fault < 0 && place < length ? text[place] : -1;
        }

        private boolean takes(int sign) {
            if (sign() != sign) {
                return false;
            }
            place++;
            return true;
        }

        private void fail() {
            if (fault < 0) {
                fault = place;
            }
        }

        private void emit(int item) {
            if (nextSize < nextCode.length) {
                nextCode[nextSize] = item;
                nextSize++;
            }
        }

        // What the law gives a side of a card, many of which are in the hat.
        int valueFor(Things things, int card, int side, int many) {
            a = things.colour(card, side);
            b = things.colour(card, 1 - side);
            n = card;
            m = many;
            s = side;
            top = 0;
            for (int i = 0; i < size; i++) {
                int item = code[i];
                if (item >= 0) {
                    push(item);
                } else if (item == -ALWAYS) {
                    return pop();
                } else if (item == -WHEN) {
                    int value = pop();
                    if (pop() != 0) {
                        return value;
                    }
                } else {
                    workOut(-item);
                }
            }
            return 0;
        }

        private void workOut(int sign) {
            switch (sign) {
                case 'a': push(a); break;
                case 'b': push(b); break;
                case 'n': push(n); break;
                case 'm': push(m); break;
                case 's': push(s); break;
                case '!': push(pop() == 0 ? 1 : 0); break;
                case MINUS: push(-pop()); break;
                default:
                    int right = pop();
                    int left = pop();
                    push(joined(sign, left, right));
            }
        }

        private static int joined(int sign, int left, int right) {
            switch (sign) {
                case '|': return left != 0 || right != 0 ? 1 : 0;
                case '&': return left != 0 && right != 0 ? 1 : 0;
                case '<': return left < right ? 1 : 0;
                case '=': return left == right ? 1 : 0;
                case '>': return left > right ? 1 : 0;
                case '+': return left + right;
                case '-': return left - right;
                case '*': return left * right;
                case '/': return right == 0 ? 0 : left / right;
                default: return right == 0 ? 0 : left % right;
            }
        }

        private void push(int v) {
            if (top < stack.length) {
                stack[top] = v;
                top++;
            }
        }

        private int pop() {
            if (top <= 0) {
                return 0;
            }
            top--;
            return stack[top];
        }
    }

    /** How likely colours are shown, by the weights of all sides. */
    private static final class Showings {
        // Both weights together are 1 to 6: each divides it.
        private static final int WHOLE = 60, MOST_WEIGHT = 3;

        private final int[][] weights = new int[CARDS][2];

        void weighAll(Things things, Law law) {
            for (int i = 0; i < things.cards; i++) {
                weigh(things, law, i);
            }
        }

        void weigh(Things things, Law law, int card) {
            weighAmong(things, law, card, things.values[MANY][card]);
        }

        private void weighAmong(Things things, Law law, int card, int many) {
            int first = 1;
            int second = 1;
            if (law.stands()) {
                first = held(law.valueFor(things, card, 0, many));
                second = held(law.valueFor(things, card, 1, many));
            }
            boolean neither = first == 0 && second == 0;
            weights[card][0] = neither ? 1 : first;
            weights[card][1] = neither ? 1 : second;
        }

        private static int held(int v) {
            return Math.max(0, Math.min(MOST_WEIGHT, v));
        }

        // How likely a side of a card is shown, in parts of the whole.
        private int ofSide(int card, int side) {
            int both = weights[card][0] + weights[card][1];
            return both < 1 ? 0 : WHOLE / both * weights[card][side];
        }

        private int ofColour(Things things, int card, int colour) {
            int parts = 0;
            for (int side = 0; side < 2; side++) {
                if (things.colour(card, side) == colour) {
                    parts += ofSide(card, side);
                }
            }
            return parts;
        }

        // Cards of a number times how likely each shows a colour so many times.
        long likelyOf(Things things, int card, int colour, int times) {
            long parts = ofColour(things, card, colour);
            long ways = things.values[MANY][card];
            for (int i = 0; i < times; i++) {
                ways *= parts;
            }
            return ways;
        }

        long likely(Things things, int colour, int times) {
            long ways = 0;
            for (int i = 0; i < things.cards; i++) {
                ways += likelyOf(things, i, colour, times);
            }
            return ways;
        }

        long likelyBoth(Things things, int colour, int otherColour) {
            long ways = 0;
            for (int i = 0; i < things.cards; i++) {
                for (int side = 0; side < 2; side++) {
                    if (things.colour(i, side) == colour && things.colour(i, 1 - side) == otherColour) {
                        ways += (long) things.values[MANY][i] * ofSide(i, side);
                    }
                }
            }
            return ways;
        }

        // The card of which one more makes the colours of a row most likely; NOT: none does.
        int mostLikelyMore(Things things, Law law, Shelf colours) {
            int best = NOT;
            long bestWays = waysWith(things, -1, colours);
            long bestAll = allWaysOf(things.inHat(), colours);
            long all = allWaysOf(things.inHat() + 1, colours);
            for (int i = 0; i < things.cards; i++) {
                // The law may go by how many there are, and these are then one more.
                weighAmong(things, law, i, things.values[MANY][i] + 1);
                long ways = waysWith(things, i, colours);
                weigh(things, law, i);
                if (isMore(ways, all, bestWays, bestAll)) {
                    best = i;
                    bestWays = ways;
                    bestAll = all;
                }
            }
            return best;
        }

        // All colours of a row, each drawn anew, from the hat with one more of a card (-1: of none).
        private long waysWith(Things things, int card, Shelf colours) {
            long ways = 1;
            for (int i = 0; i < colours.length; i++) {
                int colour = (int) colours.elements[i];
                long once = likely(things, colour, 1);
                ways *= card < 0 ? once : once + ofColour(things, card, colour);
            }
            return ways;
        }

        private static long allWaysOf(int inHat, Shelf colours) {
            long ways = 1;
            for (int i = 0; i < colours.length; i++) {
                ways *= (long) WHOLE * inHat;
            }
            return ways < 1 ? 1 : ways;
        }

        // Whether one fraction is above another, whole parts first, so that no product grows too long.
        private static boolean isMore(long above, long below, long otherAbove, long otherBelow) {
            long p = above;
            long q = below;
            long r = otherAbove;
            long t = otherBelow;
            boolean turned = false;
            for (int step = 0; step < 200 && q != 0 && t != 0; step++) {
                if (p / q != r / t) {
                    return (p / q > r / t) != turned;
                }
                long rest = p % q;
                long otherRest = r % t;
                p = q;
                q = rest;
                r = t;
                t = otherRest;
                turned = !turned;
            }
            // A rest of 0 makes the turned fraction endless, so the greater one.
            return q == 0 ? t != 0 && !turned : t == 0 && turned;
        }
    }

    /** Urns handed on, tests, witnesses and bets, counted in ways. */
    private static final class Odds {
        private static final int PRICE_SCALE = 100 * 12 * 12 * 12, MOST_STAKE = 5;

        private final int[] order = new int[TESTS];
        private final int[] tried = new int[TESTS];
        private final int[] stakes = new int[OUTCOMES];

        // The ways to a red ball from urn u, if red and white ones are drawn from urn 0 in so many.
        long redLast(Things things, int u, int red, int white) {
            long redWays = red;
            long whiteWays = white;
            for (int i = 1; i <= u && i < URNS; i++) {
                long reds = things.values[RED][i];
                long whites = things.values[WHITE][i];
                long nextRed = redWays * (reds + 1) + whiteWays * reds;
                whiteWays = redWays * whites + whiteWays * (whites + 1);
                redWays = nextRed;
            }
            return redWays;
        }

        long waysToLast(Things things, int u) {
            long ways = things.values[RED][0] + things.values[WHITE][0];
            for (int i = 1; i <= u && i < URNS; i++) {
                ways *= things.values[RED][i] + things.values[WHITE][i] + 1;
            }
            return ways;
        }

        long waysIll(Things things, int told, int sayIll) {
            return things.values[ILL][0] * waysRight(things.values[FOR_ILL], told, sayIll);
        }

        long waysWell(Things things, int told, int sayIll) {
            return (100 - things.values[ILL][0]) * waysRight(things.values[FOR_WELL], told, told & ~sayIll);
        }

        private static long waysRight(int[] right, int told, int areRight) {
            long ways = 1;
            for (int i = 0; i < TESTS; i++) {
                if ((told >> i & 1) == 1) {
                    ways *= (areRight >> i & 1) == 1 ? right[i] : 12 - right[i];
                }
            }
            return ways;
        }

        // The order of the least mean price, the first by numbers, comes to stand in order.
        void findOrder(Things things) {
            long least = Long.MAX_VALUE;
            for (int i = 0; i < 256; i++) {
                if (isOrder(i)) {
                    long mean = meanPrice(things, tried);
                    if (mean < least) {
                        least = mean;
                        System.arraycopy(tried, 0, order, 0, TESTS);
                    }
                }
            }
        }

        // Four tests of two bits each, the first one's bits above: whether each comes once.
        private boolean isOrder(int packed) {
            int seen = 0;
            for (int i = 0; i < TESTS; i++) {
                tried[i] = packed >> 2 * (TESTS - 1 - i) & 3;
                seen |= 1 << tried[i];
            }
            return seen == (1 << TESTS) - 1;
        }

        // By the price scale; a test is made only if all ahead of it say ill.
        long meanPrice(Things things, int[] tests) {
            long ill = things.values[ILL][0];
            long well = 100 - ill;
            long mean = 0;
            for (int i = 0; i < TESTS; i++) {
                int test = tests[i];
                if (within(test, TESTS)) {
                    mean = mean * 12 + things.values[PRICE][test] * (ill + well);
                    ill *= things.values[FOR_ILL][test];
                    well *= 12 - things.values[FOR_WELL][test];
                }
            }
            return mean;
        }

        // It being so: that of all told ones just some say it.
        long waysTheySay(Things things, int told, int saySo) {
            long ways = 1;
            for (int i = 0; i < WITNESSES; i++) {
                if ((told >> i & 1) == 1) {
                    int lies = things.values[LIES][i];
                    ways *= (saySo >> i & 1) == 1 ? 12 - lies : lies;
                }
            }
            return ways;
        }

        long allWays(int told) {
            long ways = 1;
            for (int i = 0; i < WITNESSES; i++) {
                ways *= (told >> i & 1) == 1 ? 12 : 1;
            }
            return ways;
        }

        // What he loses at least by the stakes that come to stand; 0: he need not lose.
        int findStakes(Things things) {
            int most = 0;
            stakes[0] = 0;
            stakes[1] = 0;
            stakes[2] = 0;
            for (int first = -MOST_STAKE; first <= MOST_STAKE; first++) {
                for (int second = -MOST_STAKE; second <= MOST_STAKE; second++) {
                    for (int third = -MOST_STAKE; third <= MOST_STAKE; third++) {
                        int loss = leastLoss(things.values[QUOTE], first, second, third);
                        if (loss > most) {
                            most = loss;
                            stakes[0] = first;
                            stakes[1] = second;
                            stakes[2] = third;
                        }
                    }
                }
            }
            return most;
        }

        private static int leastLoss(int[] quotes, int first, int second, int third) {
            int paid = first * quotes[0] + second * quotes[1] + third * quotes[2];
            return 12 * Math.min(first, Math.min(second, third)) - paid;
        }
    }

    /** Drawings by seeds, what is laid aside, what was shown in deed, and an image of these. */
    private static final class Drawings {
        private int seed;
        private final int[] aside = new int[CARDS];
        private final int[] led = new int[COLOURS];
        private int latest = -1;
        private final int[] imageMany = new int[CARDS];
        private final int[] imageAside = new int[CARDS];
        private final int[] imageLed = new int[COLOURS];
        private int imageLatest;
        private int imageCards = -1;

        private int lot(int below) {
            seed = seed * 1103515245 + 12345;
            return below < 1 ? 0 : (seed >>> 8) % below;
        }

        // Only from a hat that is not empty.
        int pickCard(Things things) {
            int left = lot(things.inHat());
            for (int i = 0; i < things.cards; i++) {
                left -= things.values[MANY][i];
                if (left < 0) {
                    return i;
                }
            }
            return 0;
        }

        int pickSide(int[] weights) {
            return lot(weights[0] + weights[1]) < weights[0] ? 0 : 1;
        }

        void layAside(Things things, int card, int colour) {
            things.values[MANY][card]--;
            aside[card]++;
            led[colour]++;
            latest = card;
        }

        int layAllBack(Things things) {
            int all = allAside();
            for (int i = 0; i < CARDS; i++) {
                things.putInHat(i, aside[i]);
                aside[i] = 0;
            }
            return all;
        }

        int allAside() {
            int all = 0;
            for (int i = 0; i < CARDS; i++) {
                all += aside[i];
            }
            return all;
        }

        boolean hasImage() {
            return imageCards >= 0;
        }

        void keepImage(Things things) {
            imageCards = things.cards;
            System.arraycopy(things.values[MANY], 0, imageMany, 0, CARDS);
            System.arraycopy(aside, 0, imageAside, 0, CARDS);
            System.arraycopy(led, 0, imageLed, 0, COLOURS);
            imageLatest = latest;
        }

        // Cards that came since the image stay as they are. Only where there is one.
        void takeImage(Things things) {
            int cards = Math.max(0, Math.min(imageCards, CARDS));
            System.arraycopy(imageMany, 0, things.values[MANY], 0, cards);
            System.arraycopy(imageAside, 0, aside, 0, cards);
            System.arraycopy(imageLed, 0, led, 0, COLOURS);
            latest = imageLatest;
        }
    }

    /** Bodies of kinds: an act is that of a body's own kind, or of the next kind above that has one. */
    private static final class Acts {
        private static final int KINDS = 8, ACTS = 4, MOST_BODIES = 50, TRACED = 24, DEEPEST = 20;
        private static final int SHOWS = 0, DRAWS = 1, LEAVES = 2, TELLS = 3;
        private static final int[] ABOVE = {-1, 0, 0, 2, 1, 3, 0, 6};
        // The numbers of each kind's own bodies of shows, draws, leaves, tells; 0: it has none.
        private static final int[] OWN = {
            1, 10, 11, 2,
            20, 0, 0, 0,
            0, 30, 0, 0,
            0, 41, 40, 0,
            0, 0, 0, 50,
            0, 0, 60, 61,
            70, 0, 0, 0,
            81, 80, 0, 0};

        private final int[] kinds = new int[MOST_BODIES];
        private int bodies;
        private final int[] trace = new int[TRACED];
        private int ran;
        // Of the body that acts.
        private int kind;
        private int number;

        int addBody(int ofKind) {
            if (bodies >= MOST_BODIES) {
                return FULL;
            }
            kinds[bodies] = ofKind;
            bodies++;
            return bodies - 1;
        }

        static boolean isUnder(int kind, int above) {
            int at = kind;
            for (int step = 0; step < KINDS && within(at, KINDS); step++) {
                if (at == above) {
                    return true;
                }
                at = ABOVE[at];
            }
            return false;
        }

        int perform(int body, int act, int x) {
            ran = 0;
            if (!within(body, bodies) || !within(act, ACTS)) {
                return 0;
            }
            kind = kinds[body];
            number = body;
            return run(kind, act, x, 0);
        }

        // The body of an act that is found from a kind on upward.
        private int run(int from, int act, int x, int depth) {
            int at = owner(from, act);
            if (at < 0 || depth > DEEPEST) {
                return 0;
            }
            int body = OWN[ACTS * at + act];
            note(body);
            switch (body) {
                case 1: return x + number;
                case 2: return own(DRAWS, x, depth) - own(LEAVES, 1, depth);
                case 10: return own(SHOWS, x, depth) * 2;
                case 11: return x ^ number;
                case 20: return above(at, SHOWS, x, depth) + 3;
                case 30: return -above(at, DRAWS, x, depth);
                case 40: return above(at, LEAVES, x, depth) * 3;
                case 41: return above(at, DRAWS, x + 1, depth);
                case 50: return above(at, TELLS, x, depth) ^ 5;
                case 60: return above(at, LEAVES, x, depth) - own(SHOWS, 2, depth);
                case 61: return above(at, TELLS, x, depth) + 1;
                case 70: return above(at, SHOWS, x, depth) * 2;
                case 80: return above(at, DRAWS, x, depth) + own(LEAVES, 2, depth);
                case 81: return above(at, SHOWS, x, depth) - 1;
                default: return 0;
            }
        }

        // An act of the body that acts, whichever kind asks for it.
        private int own(int act, int x, int depth) {
            return run(kind, act, x, depth + 1);
        }

        // An act from the kind above one on.
        private int above(int at, int act, int x, int depth) {
            return run(ABOVE[at], act, x, depth + 1);
        }

        // The first kind from one on upward with a body of its own for an act.
        private static int owner(int from, int act) {
            int at = from;
            for (int step = 0; step < KINDS && within(at, KINDS); step++) {
                if (OWN[ACTS * at + act] != 0) {
                    return at;
                }
                at = ABOVE[at];
            }
            return -1;
        }

        private void note(int body) {
            if (ran < TRACED) {
                trace[ran] = body;
            }
            ran++;
        }
    }

    /** A shelf: it holds nothing, a body by its number, or a row. */
    private static final class Shelf {
        private static final int NOTHING = 0, BODY = 1, ROW = 2, SORTS = 5;

        private int holds;
        private int body;
        private int sort;
        private int length;
        private final long[] elements = new long[LONGEST_ROW];

        boolean isRowOf(int wanted) {
            return holds == ROW && sort == wanted;
        }

        void becomeRow(int ofSort, int n) {
            holds = ROW;
            sort = ofSort;
            length = n;
            for (int i = 0; i < LONGEST_ROW; i++) {
                elements[i] = 0;
            }
        }

        boolean spans(int from, int n) {
            return from >= 0 && n >= 0 && n <= length && from <= length - n;
        }

        // What a row of a sort keeps of what is put in.
        static long kept(int sort, long v) {
            switch (sort) {
                case 0: return (byte) v;
                case 1: return (short) v;
                case 2: return (int) v;
                case 3: return v;
                default: return v != 0 ? 1 : 0;
            }
        }
    }
}
