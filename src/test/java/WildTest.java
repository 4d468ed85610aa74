import java.util.Random;

/** Long runs of any calls: none throws, the same calls answer the same, what is refused changes nothing. */
public final class WildTest {
    private static final int CALLS = 37;
    private static final int[] EDGES = {-1, 0, 1, 2, 3, 4, 5, 6, 7, 8, 9, 10, 11, 12, 13, 16, 17, 24, 49, 50, 51, 55, 59, 60,
        61, 63, 64, 99, 100, 111, 119, 120, 121, 255, 256, 559, 999, 4095, 4096, 9999, 10000, -2, -11, -14, 1 << 30,
        Integer.MAX_VALUE, Integer.MAX_VALUE - 1, Integer.MIN_VALUE, Integer.MIN_VALUE + 1};

    public static void main(String[] args) {
        Random random = new Random(9);
        for (int run = 0; run < 1500; run++) {
            oneRun(random, run % 3);
        }
        Check.end("WildTest");
    }

    private static void oneRun(Random random, int how) {
        OtherSide x = new OtherSide();
        OtherSide twin = new OtherSide();
        OtherSide plain = new OtherSide();
        OtherSide looked = new OtherSide();
        int looks = 0;
        for (int i = 0; i < 512; i++) {
            int call = random.nextInt(CALLS);
            int[] a = {any(random, how), any(random, how), any(random, how), any(random, how), any(random, how)};
            if (call == 4 && how < 2) {
                a[0] = "abnms0123456789!-()+*/%<=>&|?;".charAt(random.nextInt(30));
            }
            long got = answer(x, call, a);
            Check.due("the twin at call " + call, answer(twin, call, a), got);
            if (!refused(call, got)) {
                Check.due("without refused calls " + call, answer(plain, call, a), got);
            }
            // An object has but 512 calls: one of its own is looked at, as long as it has some left.
            if (looks <= 500) {
                Check.due("one looked at at call " + call, answer(looked, call, a), got);
                looks += 1 + manyAsTheyMayBe(looked, call);
            }
        }
    }

    /** How many calls that took. */
    private static int manyAsTheyMayBe(OtherSide x, int call) {
        int cards = x.count(0);
        int all = 0;
        for (int card = 0; card < cards; card++) {
            int many = x.of(card, 0);
            all += many;
            Check.due("MANY is 0 to 9 behind call " + call, many >= 0 && many <= 9 ? 1 : 0, 1);
        }
        Check.due("all in the hat behind call " + call, x.of(0, 15), all);
        return cards + 2;
    }

    private static int any(Random random, int how) {
        int kind = random.nextInt(how == 0 ? 40 : 6);
        if (kind == 0) {
            return random.nextInt();
        }
        if (kind <= 2) {
            return EDGES[random.nextInt(EDGES.length)];
        }
        return kind % 2 == 0 ? random.nextInt(4) : random.nextInt(60);
    }

    // Law and act change something even where they tell a fault or find no body.
    private static boolean refused(int call, long got) {
        boolean answersAny = call == 5 || call == 29 || call == 34;
        return !answersAny && (got < 0 || got == Long.MIN_VALUE);
    }

    private static long answer(OtherSide x, int call, int[] a) {
        switch (call) {
            case 0: return x.card(a[0]);
            case 1: return x.cards(a[0], a[1], a[2]);
            case 2: return x.mend(a[0], a[1], a[2]);
            case 3: return x.of(a[0], a[1]);
            case 4: return x.feed(a[0]);
            case 5: return x.law();
            case 6: return x.weight(a[0], a[1]);
            case 7: return x.shown(a[0], a[1]);
            case 8: return x.other(a[0], a[1]);
            case 9: return x.which(a[0], a[1], a[2]);
            case 10: return x.again(a[0], a[1]);
            case 11: return x.cheated(a[0]);
            case 12: return x.judge(a[0]);
            case 13: return x.handed(a[0], a[1], a[2]);
            case 14: return x.ill(a[0], a[1]);
            case 15: return x.order(a[0], a[1]);
            case 16: return x.isSo(a[0], a[1]);
            case 17: return x.tooMany(a[0], a[1]);
            case 18: return x.next(a[0], a[1]);
            case 19: return x.sure(a[0]);
            case 20: return x.drawn(a[0], a[1], a[2]);
            case 21: return x.draw(a[0]);
            case 22: return x.putBack();
            case 23: return x.image();
            default: return answerMore(x, call, a);
        }
    }

    private static long answerMore(OtherSide x, int call, int[] a) {
        switch (call) {
            case 24: return x.back();
            case 25: return x.undo();
            case 26: return x.redo();
            case 27: return x.body(a[0]);
            case 28: return x.trace(a[0]);
            case 29: return x.act(a[0], a[1], a[2]);
            case 30: return x.keep(a[0], a[1]);
            case 31: return x.row(a[0], a[1], a[2]);
            case 32: return x.put(a[0], a[1], (long) a[2] << a[3] % 40 * (a[3] < 0 ? -1 : 1));
            case 33: return x.count(a[0]);
            case 34: return x.element(a[0], a[1]);
            case 35: return x.shift(a[0], a[1], a[2], a[3], a[4]);
            default: return x.taken(a[0], a[1]);
        }
    }
}
