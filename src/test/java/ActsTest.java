import java.util.ArrayList;
import java.util.List;
import java.util.Random;

/** Promises 29 to 31: body, act, trace, held against bodies as the Java language itself runs them. */
public final class ActsTest {
    private static final List<Integer> RAN = new ArrayList<>();

    private interface Shows {
        int number();

        default int shows(int x) {
            RAN.add(1);
            return x + number();
        }
    }

    private interface Tells {
        int draws(int x);

        int leaves(int x);

        default int tells(int x) {
            RAN.add(2);
            return draws(x) - leaves(1);
        }
    }

    private static class Hat implements Shows, Tells {
        private final int number;

        Hat(int number) {
            this.number = number;
        }

        @Override public int number() {
            return number;
        }

        @Override public int draws(int x) {
            RAN.add(10);
            return shows(x) * 2;
        }

        @Override public int leaves(int x) {
            RAN.add(11);
            return x ^ number;
        }
    }

    private static class Plain extends Hat {
        Plain(int number) {
            super(number);
        }

        @Override public int shows(int x) {
            RAN.add(20);
            return super.shows(x) + 3;
        }
    }

    private static class Urn extends Hat {
        Urn(int number) {
            super(number);
        }

        @Override public int draws(int x) {
            RAN.add(30);
            return -super.draws(x);
        }
    }

    private static class Test extends Urn {
        Test(int number) {
            super(number);
        }

        @Override public int leaves(int x) {
            RAN.add(40);
            return super.leaves(x) * 3;
        }

        @Override public int draws(int x) {
            RAN.add(41);
            return super.draws(x + 1);
        }
    }

    private static final class Say extends Plain {
        Say(int number) {
            super(number);
        }

        @Override public int tells(int x) {
            RAN.add(50);
            return super.tells(x) ^ 5;
        }
    }

    private static final class Witness extends Test {
        Witness(int number) {
            super(number);
        }

        @Override public int leaves(int x) {
            RAN.add(60);
            return super.leaves(x) - shows(2);
        }

        @Override public int tells(int x) {
            RAN.add(61);
            return super.tells(x) + 1;
        }
    }

    private static class Told extends Hat {
        Told(int number) {
            super(number);
        }

        @Override public int shows(int x) {
            RAN.add(70);
            return super.shows(x) * 2;
        }
    }

    private static final class Cheated extends Told {
        Cheated(int number) {
            super(number);
        }

        @Override public int draws(int x) {
            RAN.add(80);
            return super.draws(x) + leaves(2);
        }

        @Override public int shows(int x) {
            RAN.add(81);
            return super.shows(x) - 1;
        }
    }

    private static Hat of(int kind, int number) {
        switch (kind) {
            case 0: return new Hat(number);
            case 1: return new Plain(number);
            case 2: return new Urn(number);
            case 3: return new Test(number);
            case 4: return new Say(number);
            case 5: return new Witness(number);
            case 6: return new Told(number);
            default: return new Cheated(number);
        }
    }

    private static int act(Hat h, int act, int x) {
        switch (act) {
            case 0: return h.shows(x);
            case 1: return h.draws(x);
            case 2: return h.leaves(x);
            default: return h.tells(x);
        }
    }

    public static void main(String[] args) {
        bodies();
        refusals();
        all();
        Check.end("ActsTest");
    }

    private static void bodies() {
        OtherSide x = new OtherSide();
        int[] bad = {-1, 8, Integer.MIN_VALUE, Integer.MAX_VALUE};
        for (int kind : bad) {
            Check.due("kind " + kind, x.body(kind), OtherSide.BAD);
        }
        for (int i = 0; i < 50; i++) {
            Check.due("body", x.body(i % 8), i);
        }
        Check.due("one more", x.body(0), OtherSide.FULL);
        Check.due("a bad one more", x.body(8), OtherSide.BAD);
        Check.due("bodies", x.count(4), 50);
    }

    private static void refusals() {
        OtherSide x = new OtherSide();
        Check.due("no trace yet", x.trace(0), OtherSide.BAD);
        x.body(4);
        Check.due("tells", x.act(0, 3, 9), ((12 + 0) * 2 - (1 ^ 0)) ^ 5);
        Check.due("ran", x.count(5), 6);
        Check.due("the first", x.trace(0), 50);
        Check.due("behind the last", x.trace(6), OtherSide.BAD);
        int[] far = {-1, 24, Integer.MIN_VALUE, Integer.MAX_VALUE};
        for (int i : far) {
            Check.due("trace " + i, x.trace(i), OtherSide.BAD);
        }
        int[][] none = {{-1, 0}, {1, 0}, {0, -1}, {0, 4}, {50, 0}, {Integer.MIN_VALUE, 0}, {0, Integer.MAX_VALUE}};
        for (int[] n : none) {
            x.act(0, 3, 9);
            Check.due("none", x.act(n[0], n[1], 7), 0);
            Check.due("no trace then", x.trace(0), OtherSide.BAD);
            Check.due("none ran", x.count(5), 0);
        }
    }

    private static OtherSide bodiesOf(int[] kinds) {
        OtherSide x = new OtherSide();
        for (int kind : kinds) {
            x.body(kind);
        }
        return x;
    }

    private static void all() {
        Random random = new Random(7);
        int[] edges = {0, 1, -1, 5, Integer.MAX_VALUE, Integer.MIN_VALUE, 1 << 30};
        int[] kinds = new int[50];
        for (int i = 0; i < 50; i++) {
            kinds[i] = i < 8 ? i : random.nextInt(8);
        }
        for (int body = 0; body < 50; body++) {
            for (int act = 0; act < 4; act++) {
                OtherSide x = bodiesOf(kinds);
                for (int i = 0; i < edges.length + 3; i++) {
                    int with = i < edges.length ? edges[i] : random.nextInt();
                    RAN.clear();
                    int due = act(of(kinds[body], body), act, with);
                    Check.due("act " + kinds[body] + " " + act + " " + with, x.act(body, act, with), due);
                    Check.due("ran", x.count(5), RAN.size());
                    for (int k = 0; k < RAN.size(); k++) {
                        Check.due("trace", x.trace(k), RAN.get(k));
                    }
                    Check.due("trace behind", x.trace(RAN.size()), OtherSide.BAD);
                }
            }
        }
    }
}
