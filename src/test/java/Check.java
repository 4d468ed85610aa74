/** Counts the answers of a test that are as due, and prints those that are not. */
final class Check {
    private static int right;
    private static int wrong;
    private static String told = "";

    private Check() {
    }

    /** The sentence that the next answers are held against: of a promise, or (0) of the document's other parts. */
    static void says(int promise, String sentence) {
        told = (promise == 0 ? "the terms" : "promise " + promise) + " [" + sentence + "] ";
    }

    static void due(String call, long got, long want) {
        if (got == want) {
            right++;
        } else {
            wrong++;
            if (wrong <= 50) {
                System.out.println(told + call + " answered " + got + ", due is " + want);
            }
        }
    }

    static void so(String what, boolean so) {
        due(what, so ? 1 : 0, 1);
    }

    /** A chance by what is asked above the line and below it. */
    static void chance(String call, long above, long below, long wantAbove, long wantBelow) {
        due(call + " above", above, wantAbove);
        due(call + " below", below, wantBelow);
    }

    /** An object with cards by sides and MANY, as card() takes them. */
    static OtherSide hat(int... cards) {
        OtherSide x = new OtherSide();
        for (int abm : cards) {
            x.card(abm);
        }
        return x;
    }

    /** Feeds a text to the tape, which has room for it. */
    static void feed(OtherSide x, String text) {
        for (int i = 0; i < text.length(); i++) {
            x.feed(text.charAt(i));
        }
    }

    /** Feeds a text and makes it the law. */
    static int law(OtherSide x, String text) {
        feed(x, text);
        return x.law();
    }

    /** A shelf comes to hold a row of bytes. */
    static void bytes(OtherSide x, int shelf, int... values) {
        x.row(shelf, 0, values.length);
        for (int i = 0; i < values.length; i++) {
            x.put(shelf, i, values[i]);
        }
    }

    static void end(String test) {
        System.out.println(test + ": " + right + " answers as due, " + wrong + " not");
        if (wrong != 0 || right == 0) {
            System.exit(1);
        }
    }
}
