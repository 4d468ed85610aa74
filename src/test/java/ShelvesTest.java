import java.util.Random;

/** Promises 32 to 37: keep, row, put, element, shift, taken; and promise 38: count. */
public final class ShelvesTest {
    private static final long NONE = Long.MIN_VALUE;

    public static void main(String[] args) {
        keep();
        row();
        put();
        lowestBits();
        element();
        shift();
        shiftsOver();
        randomShifts();
        taken();
        count();
        Check.end("ShelvesTest");
    }

    private static void keep() {
        OtherSide x = new OtherSide();
        Check.due("no body yet", x.keep(0, 0), OtherSide.BAD);
        Check.due("nothing", x.keep(0, -1), 1);
        x.body(3);
        int[] bad = {-2, 1, 50, Integer.MIN_VALUE, Integer.MAX_VALUE};
        for (int body : bad) {
            Check.due("body " + body, x.keep(0, body), OtherSide.BAD);
        }
        Check.due("shelf -1", x.keep(-1, 0), OtherSide.BAD);
        Check.due("shelf 6", x.keep(6, -1), OtherSide.BAD);
        Check.due("a body", x.keep(5, 0), 1);
        Check.due("it is there", x.taken(5, 3), 3);
        Check.due("nothing again", x.keep(5, -1), 1);
        Check.due("nothing is there", x.taken(5, 3), -11);
        x.row(5, 0, 1);
        Check.due("nothing behind a row", x.keep(5, -1), 1);
        Check.due("the row is gone", x.element(5, 0), NONE);
    }

    private static void row() {
        OtherSide x = new OtherSide();
        int[][] bad = {{-1, 0, 1}, {6, 0, 1}, {0, -1, 1}, {0, 5, 1}, {0, 0, 61}, {0, 0, Integer.MAX_VALUE}, {6, 0, -1},
            {0, 5, -1}, {Integer.MIN_VALUE, 0, 0}, {0, Integer.MAX_VALUE, 0}};
        for (int[] b : bad) {
            Check.due("row " + b[0] + " " + b[1] + " " + b[2], x.row(b[0], b[1], b[2]), OtherSide.BAD);
        }
        Check.due("below 0", x.row(0, 0, -1), -14);
        Check.due("far below 0", x.row(0, 4, Integer.MIN_VALUE), -14);
        Check.due("nothing came", x.element(0, 0), NONE);
        Check.due("of none", x.row(0, 0, 0), 1);
        Check.due("no place", x.element(0, 0), NONE);
        for (int sort = 0; sort < 5; sort++) {
            x = new OtherSide();
            Check.due("of sixty", x.row(sort, sort, 60), 1);
            for (int i = 0; i < 60; i++) {
                Check.due("0 at first", x.element(sort, i), 0);
                x.put(sort, i, 1);
            }
            Check.due("anew", x.row(sort, sort, 2), 1);
            Check.due("0 again", x.element(sort, 1), 0);
            Check.due("shorter", x.element(sort, 2), NONE);
        }
        x.body(0);
        x.keep(1, 0);
        Check.due("behind a body", x.row(1, 2, 1), 1);
        Check.due("the body is gone", x.taken(1, 0), -12);
        x.put(1, 0, 5);
        Check.due("a refused row", x.row(1, 2, -1), -14);
        Check.due("changes nothing", x.element(1, 0), 5);
    }

    private static void put() {
        OtherSide x = new OtherSide();
        Check.due("shelf -1", x.put(-1, 0, 0), OtherSide.BAD);
        Check.due("shelf 6", x.put(6, 0, 0), OtherSide.BAD);
        Check.due("nothing", x.put(0, 0, 0), -11);
        x.body(0);
        x.keep(0, 0);
        Check.due("a body", x.put(0, 0, 0), -12);
        Check.due("a body, no place", x.put(0, -1, 0), -12);
        x.row(0, 2, 3);
        int[] places = {-1, 3, 60, Integer.MIN_VALUE, Integer.MAX_VALUE};
        for (int i : places) {
            Check.due("place " + i, x.put(0, i, 1), -13);
        }
        Check.due("put", x.put(0, 2, 7), 1);
        Check.due("is there", x.element(0, 2), 7);
        Check.due("nowhere else", x.element(0, 1), 0);
    }

    private static void lowestBits() {
        OtherSide x = new OtherSide();
        for (int sort = 0; sort < 5; sort++) {
            x.row(sort, sort, 1);
        }
        long[] values = {0, 1, -1, 127, 128, 255, 256, 300, 32767, 32768, 65536, -129, -32769, Integer.MAX_VALUE,
            1L << 31, 1L << 32, -1L << 31, (1L << 32) + 5, Long.MAX_VALUE, Long.MIN_VALUE, 0x123456789ABCDEFL};
        for (long v : values) {
            long[] due = {(byte) v, (short) v, (int) v, v, v != 0 ? 1 : 0};
            for (int sort = 0; sort < 5; sort++) {
                Check.due("put", x.put(sort, 0, v), 1);
                Check.due("sort " + sort + " keeps of " + v, x.element(sort, 0), due[sort]);
            }
        }
    }

    private static void element() {
        OtherSide x = new OtherSide();
        Check.due("shelf -1", x.element(-1, 0), NONE);
        Check.due("shelf 6", x.element(6, 0), NONE);
        Check.due("nothing", x.element(0, 0), NONE);
        x.body(0);
        x.keep(0, 0);
        Check.due("a body", x.element(0, 0), NONE);
        x.row(0, 3, 60);
        int[] places = {-1, 60, Integer.MIN_VALUE, Integer.MAX_VALUE};
        for (int i : places) {
            Check.due("place " + i, x.element(0, i), NONE);
        }
        Check.due("the last", x.element(0, 59), 0);
        for (int refusal = -1; refusal >= -14; refusal--) {
            x.put(0, 7, refusal);
            Check.due("an element like a refusal", x.element(0, 7), refusal);
        }
    }

    private static void shift() {
        OtherSide x = new OtherSide();
        x.row(0, 1, 5);
        x.row(1, 1, 3);
        x.row(2, 2, 3);
        x.body(0);
        x.keep(3, 0);
        Check.due("shelf -1", x.shift(-1, 0, 0, 0, 1), OtherSide.BAD);
        Check.due("other 6", x.shift(0, 0, 6, 0, 1), OtherSide.BAD);
        Check.due("shelf 6 and nothing", x.shift(4, 0, 6, 0, 1), OtherSide.BAD);
        Check.due("nothing", x.shift(4, 0, 0, 0, 1), -11);
        Check.due("other nothing", x.shift(0, 0, 4, 0, 1), -11);
        Check.due("nothing and a body", x.shift(3, 0, 4, 0, 1), -11);
        Check.due("a body", x.shift(3, 0, 0, 0, 1), -12);
        Check.due("other a body", x.shift(0, 0, 3, 0, 1), -12);
        Check.due("two bodies", x.shift(3, 0, 3, 0, 1), -12);
        Check.due("unlike sorts", x.shift(0, 0, 2, 0, 1), -12);
        Check.due("unlike sorts, no place", x.shift(0, -1, 2, 0, 1), -12);
        int[][] places = {{-1, 0, 1}, {0, -1, 1}, {0, 0, -1}, {0, 0, 4}, {3, 0, 3}, {0, 2, 2}, {6, 0, 0}, {0, 4, 0},
            {0, 0, Integer.MAX_VALUE}, {Integer.MAX_VALUE, 0, Integer.MAX_VALUE}, {0, 0, Integer.MIN_VALUE},
            {Integer.MIN_VALUE, 0, 0}, {1, 1, Integer.MAX_VALUE}, {-1, 0, 0}, {0, Integer.MAX_VALUE, 1}};
        for (int[] p : places) {
            Check.due("no place " + p[0] + " " + p[1] + " " + p[2], x.shift(0, p[0], 1, p[1], p[2]), -13);
        }
        Check.due("none at the ends", x.shift(0, 5, 1, 3, 0), 0);
        Check.due("all", x.shift(0, 2, 1, 0, 3), 3);
    }

    private static void shiftsOver() {
        OtherSide x = new OtherSide();
        x.row(0, 4, 5);
        x.put(0, 0, 1);
        x.put(0, 2, 1);
        Check.due("upward over itself", x.shift(0, 0, 0, 1, 4), 4);
        long[] up = {1, 1, 0, 1, 0};
        for (int i = 0; i < 5; i++) {
            Check.due("upward " + i, x.element(0, i), up[i]);
        }
        Check.due("downward over itself", x.shift(0, 1, 0, 0, 4), 4);
        long[] down = {1, 0, 1, 0, 0};
        for (int i = 0; i < 5; i++) {
            Check.due("downward " + i, x.element(0, i), down[i]);
        }
    }

    private static void randomShifts() {
        Random random = new Random(8);
        for (int run = 0; run < 200; run++) {
            OtherSide x = new OtherSide();
            int sort = random.nextInt(4);
            long[][] rows = {new long[random.nextInt(8)], new long[random.nextInt(8)]};
            for (int shelf = 0; shelf < 2; shelf++) {
                x.row(shelf, sort, rows[shelf].length);
                for (int i = 0; i < rows[shelf].length; i++) {
                    rows[shelf][i] = random.nextInt(100);
                    x.put(shelf, i, rows[shelf][i]);
                }
            }
            for (int k = 0; k < 10; k++) {
                int from = random.nextInt(2);
                int to = random.nextInt(2);
                int i = random.nextInt(10) - 1;
                int j = random.nextInt(10) - 1;
                int n = random.nextInt(6) - 1;
                boolean good = i >= 0 && j >= 0 && n >= 0 && i + n <= rows[from].length && j + n <= rows[to].length;
                Check.due("shift", x.shift(from, i, to, j, n), good ? n : -13);
                if (good) {
                    long[] before = rows[from].clone();
                    for (int e = 0; e < n; e++) {
                        rows[to][j + e] = before[i + e];
                    }
                }
                for (int shelf = 0; shelf < 2; shelf++) {
                    for (int e = 0; e < rows[shelf].length; e++) {
                        Check.due("element", x.element(shelf, e), rows[shelf][e]);
                    }
                }
            }
        }
    }

    private static void taken() {
        OtherSide x = new OtherSide();
        String[] under = {"0", "01", "02", "023", "014", "0235", "06", "067"};
        int[] bad = {-1, 8, Integer.MIN_VALUE, Integer.MAX_VALUE};
        for (int b : bad) {
            Check.due("kind " + b, x.taken(0, b), OtherSide.BAD);
            Check.due("shelf " + b, x.taken(b, 0), OtherSide.BAD);
        }
        Check.due("shelf 6", x.taken(6, 0), OtherSide.BAD);
        Check.due("nothing", x.taken(0, 0), -11);
        x.row(0, 0, 1);
        Check.due("a row", x.taken(0, 0), -12);
        for (int kind = 0; kind < 8; kind++) {
            x.keep(0, x.body(kind));
            for (int k = 0; k < 8; k++) {
                boolean is = under[kind].indexOf((char) ('0' + k)) >= 0;
                Check.due("taken " + kind + " for " + k, x.taken(0, k), is ? kind : -12);
            }
        }
    }

    private static void count() {
        OtherSide x = new OtherSide();
        int[] bad = {-1, 6, Integer.MIN_VALUE, Integer.MAX_VALUE};
        for (int what : bad) {
            Check.due("count " + what, x.count(what), OtherSide.BAD);
        }
        x.card(113);
        x.card(220);
        x.draw(1);
        x.draw(2);
        x.feed('1');
        x.feed('2');
        x.feed('3');
        for (int i = 0; i < 4; i++) {
            x.mend(0, 3, i);
        }
        for (int i = 0; i < 5; i++) {
            x.body(5);
        }
        x.act(0, 3, 0);
        int[] due = {2, 2, 3, 4, 5, 10};
        for (int what = 0; what < 6; what++) {
            Check.due("count " + what, x.count(what), due[what]);
        }
        x.undo();
        Check.due("undone", x.count(3), 3);
        x.law();
        Check.due("the tape is empty", x.count(2), 0);
        x.putBack();
        Check.due("none aside", x.count(1), 0);
    }
}
