/** The edges that the document names of feed, law, weight (promises 6 to 8) and of THE LAW's text, sentence by sentence. */
public final class EdgesOfLawTest {
    private static final int BAD = OtherSide.BAD, FULL = OtherSide.FULL;
    private static final int LEAST = Integer.MIN_VALUE, MOST = Integer.MAX_VALUE;

    public static void main(String[] args) {
        aByte();
        noByte();
        aFullTape();
        becomesTheLaw();
        lessItsFault();
        emptyThen();
        ofASide();
        ofNoSide();
        linesOneOrMore();
        atMost120Bytes();
        aFirstE();
        ors();
        ands();
        oneComparison();
        sums();
        products();
        operands();
        oneToFourDigits();
        noBlanks();
        names();
        otherNames();
        sixOpen();
        closedAgain();
        intsThatWrap();
        towardZero();
        byZero();
        oneAndZero();
        allIsWorkedOut();
        theFirstThatCounts();
        noneCounts();
        firstByte();
        tooEarly();
        held();
        bothZero();
        byBothWeights();
        withoutAText();
        Check.end("EdgesOfLawTest");
    }

    private static void due(String call, long got, long want) {
        Check.due(call, got, want);
    }

    private static void fault(String text, int place) {
        OtherSide x = new OtherSide();
        due("law " + text, Check.law(x, text), -100 - place);
        due("bytes behind " + text, x.count(2), 0);
    }

    /** The weights that a text gives: of a card 0 of sides 1 and 2, nine of it. */
    private static void gives(String text, int first, int second) {
        OtherSide x = new OtherSide();
        x.card(129);
        due("law " + text, Check.law(x, text), 1);
        due(text + " of the first side", x.weight(0, 0), first);
        due(text + " of the second side", x.weight(0, 1), second);
    }

    /** An E is the same int as another one, however far from what a weight can be. */
    private static void is(String e, String other) {
        gives("(" + e + ")=(" + other + ")?2;3", 2, 2);
    }

    private static String many(String part, int times, String end) {
        StringBuilder b = new StringBuilder();
        for (int i = 0; i < times; i++) {
            b.append(part);
        }
        return b.append(end).toString();
    }

    // ---- promise 6

    private static void aByte() {
        Check.says(6, "A byte (0 .. 255) comes to THE TAPE: how many it has.");
        OtherSide x = new OtherSide();
        due("none", x.count(2), 0);
        due("feed(0)", x.feed(0), 1);
        due("feed(255)", x.feed(255), 2);
        due("feed(128)", x.feed(128), 3);
        for (int letter = 0; letter < 117; letter++) {
            due("feed(" + letter + ")", x.feed(letter), letter + 4);
        }
        due("all", x.count(2), 120);
    }

    private static void noByte() {
        Check.says(6, "BAD, FULL (120).");
        OtherSide x = new OtherSide();
        int[] none = {LEAST, -256, -1, 256, 257, 304, MOST};
        for (int letter : none) {
            due("feed(" + letter + ")", x.feed(letter), BAD);
        }
        due("none came", x.count(2), 0);
        due("the first", x.feed('1'), 1);
    }

    private static void aFullTape() {
        Check.says(6, "BAD, FULL (120).");
        OtherSide x = new OtherSide();
        for (int i = 0; i < 119; i++) {
            x.feed(i % 2 == 0 ? '2' : '-');
        }
        due("the last that has room", x.feed('-'), 120);
        due("one more", x.feed('5'), FULL);
        due("one more again", x.feed('5'), FULL);
        due("one that is none", x.feed(256), BAD);
        due("one below 0", x.feed(-1), BAD);
        due("all", x.count(2), 120);
        due("the one more is not there", x.law(), -220);
        due("room again", x.feed('5'), 1);
    }

    // ---- promise 7

    private static void becomesTheLaw() {
        Check.says(7, "THE TAPE becomes THE LAW: 1;");
        OtherSide x = new OtherSide();
        x.card(11);
        Check.feed(x, "s+2");
        due("not yet", x.weight(0, 0), 1);
        due("law", x.law(), 1);
        due("the first side", x.weight(0, 0), 2);
        due("the second side", x.weight(0, 1), 3);
        Check.feed(x, "3");
        due("the former still", x.weight(0, 0), 2);
        due("another", x.law(), 1);
        due("the first side", x.weight(0, 0), 3);
    }

    private static void lessItsFault() {
        Check.says(7, "-100 less its FAULT;");
        fault("", 0);
        fault("x", 0);
        fault("1x", 1);
        fault(many("1+", 60, ""), 120);
        OtherSide x = new OtherSide();
        x.card(11);
        Check.law(x, "s+2");
        due("a fault", Check.law(x, "1;s;"), -104);
        due("the former law stays", x.weight(0, 0), 2);
        due("an empty tape", x.law(), -100);
        due("the former law stays", x.weight(0, 1), 3);
    }

    private static void emptyThen() {
        Check.says(7, "THE TAPE is empty then.");
        OtherSide x = new OtherSide();
        Check.feed(x, many("1+", 59, "22"));
        due("a full one", x.count(2), 120);
        due("a law", x.law(), 1);
        due("empty", x.count(2), 0);
        due("no law of nothing", x.law(), -100);
        Check.feed(x, "((");
        due("a fault", x.law(), -102);
        due("empty", x.count(2), 0);
        due("the first again", x.feed('1'), 1);
        due("the former bytes are gone", x.law(), 1);
    }

    // ---- promise 8

    private static void ofASide() {
        Check.says(8, "THE WEIGHT of a SIDE (0, 1) of a CARD.");
        OtherSide x = new OtherSide();
        for (int i = 0; i < 8; i++) {
            x.card(0);
        }
        Check.law(x, "n=7?2+s;n=0?1+s;3");
        due("the first of the first", x.weight(0, 0), 1);
        due("the second of the first", x.weight(0, 1), 2);
        due("the first of the last", x.weight(7, 0), 2);
        due("the second of the last", x.weight(7, 1), 3);
    }

    private static void ofNoSide() {
        Check.says(8, "BAD.");
        OtherSide x = new OtherSide();
        due("no card yet", x.weight(0, 0), BAD);
        x.card(0);
        int[] none = {LEAST, -1, 2, 8, MOST};
        for (int i : none) {
            due("side " + i, x.weight(0, i), BAD);
            due("card " + i, x.weight(i, 0), BAD);
        }
        due("card 1", x.weight(1, 0), BAD);
        due("card 0", x.weight(0, 0), 1);
    }

    // ---- the text

    private static void linesOneOrMore() {
        Check.says(0, "LINES, one or more, parted by ; .");
        fault("", 0);
        fault(";", 0);
        fault(";1", 0);
        fault("1;", 2);
        fault("1;;1", 2);
        gives("2", 2, 2);
        gives("2;3", 2, 2);
        gives(many("0?3;", 29, "2"), 2, 2);
    }

    private static void atMost120Bytes() {
        Check.says(0, "THE LAW is a TEXT by THE TAPE (at most 120 bytes):");
        gives(many("1-", 58, "s+58"), 2, 1);
        gives(many("1-", 58, "s+57"), 1, 0);
        String longest = many("0+", 59, "s+") + "3";
        OtherSide x = new OtherSide();
        x.card(1);
        for (int i = 0; i < longest.length(); i++) {
            due("feed", x.feed(longest.charAt(i)), i < 120 ? i + 1 : FULL);
        }
        due("its first 120 bytes", x.law(), -220);
        Check.feed(x, many("0+", 59, "s3"));
        due("a name has no digits behind it", x.law(), -219);
        due("120 bytes", Check.law(x, many("0-", 59, "-s")), 1);
        due("the last byte counts", x.weight(0, 1), 1);
        due("for the first side too", x.weight(0, 0), 0);
    }

    private static void aFirstE() {
        Check.says(0, "LINE: E, or E ? E (what counts if the first is not 0).");
        gives("1?3;2", 3, 3);
        gives("0?3;2", 2, 2);
        gives("9999?3;2", 3, 3);
        gives("-1?3;2", 3, 3);
        gives("8192*8192*32?3;2", 3, 3);
        gives("1-1?3;2", 2, 2);
        gives("s?3;2", 2, 3);
        gives("0|1?3;2", 3, 3);
        gives("0|0?3;2", 2, 2);
        gives("1?0|5;2", 1, 1);
        gives("s?0|5;2", 2, 1);
        gives("s|0", 0, 1);
        fault("?1", 0);
        fault("1?", 2);
        fault("1?;1", 2);
        fault("1?2?3", 3);
        fault("(1?2)", 2);
        fault("(1;2)", 2);
    }

    private static void ors() {
        Check.says(0, "E = A { | A }.");
        gives("(0|0|0)+1", 1, 1);
        gives("(0|0|1)+1", 2, 2);
        gives("(1|0&0)+1", 2, 2);
        fault("|1", 0);
        fault("1|", 2);
        fault("1||1", 2);
    }

    private static void ands() {
        Check.says(0, "A = B { & B }.");
        gives("(1&1&1)+1", 2, 2);
        gives("(1&1&0)+1", 1, 1);
        gives("(0&0|1)+1", 2, 2);
        gives("(0&(0|1))+1", 1, 1);
        gives("(2>1&1)+1", 2, 2);
        fault("&1", 0);
        fault("1&", 2);
        fault("1&&1", 2);
    }

    private static void oneComparison() {
        Check.says(0, "B = S, or S < S, S = S, S > S.");
        String[] signs = {"<", "=", ">"};
        for (String sign : signs) {
            for (String other : signs) {
                fault("1" + sign + "2" + other + "3", 3);
                fault("1" + sign + other + "1", 2);
                gives("1" + sign + "2&1" + other + "2|1", 1, 1);
                gives("(1" + sign + "2)" + other + "3|1", 1, 1);
            }
            fault(sign + "1", 0);
            fault("1" + sign, 2);
        }
        gives("(1<2+1)+1", 2, 2);
        gives("(3<2+1)+1", 1, 1);
        gives("(3=2+1)+1", 2, 2);
        gives("(2+2>3)+1", 2, 2);
    }

    private static void sums() {
        Check.says(0, "S = P { + P, - P }.");
        gives("9-4-3", 2, 2);
        gives("9-4+3-7", 1, 1);
        gives("1+1*2", 3, 3);
        gives("8-2*3", 2, 2);
        gives("1--1", 2, 2);
        gives("1+-1+2", 2, 2);
        fault("+1", 0);
        fault("1+", 2);
        fault("1-", 2);
        fault("1++1", 2);
    }

    private static void products() {
        Check.says(0, "P = O { * O, / O, % O }.");
        gives("7/4*3", 3, 3);
        gives("3*7/9", 2, 2);
        gives("9%5%3", 1, 1);
        gives("9/4%2+1", 1, 1);
        gives("2*-1+4", 2, 2);
        fault("*1", 0);
        fault("/1", 0);
        fault("%1", 0);
        fault("1*", 2);
        fault("1/", 2);
        fault("1%", 2);
        fault("1*/1", 2);
    }

    private static void operands() {
        Check.says(0, "a NAME, ! O, - O, ( E ).");
        gives("a", 1, 2);
        gives("!a+2", 2, 2);
        gives("-a+3", 2, 1);
        gives("(a)", 1, 2);
        gives("!-!(a-1)", 0, 1);
        fault("()", 1);
        fault("(", 1);
        fault(")", 0);
        fault("1)", 1);
        fault("(1", 2);
        fault("(1))", 3);
        fault("!", 1);
        fault("-", 1);
        fault("!)", 1);
        fault("1!", 1);
        fault("1(1)", 1);
        fault("(1)1", 3);
        fault("(1)(1)", 3);
        fault("1a", 1);
        fault("a1", 1);
        fault("ab", 1);
    }

    private static void oneToFourDigits() {
        Check.says(0, "O = a number (1 to 4 digits),");
        gives("0+1", 1, 1);
        gives("0002", 2, 2);
        gives("9999-9997", 2, 2);
        gives("9999=9998+1?2;3", 2, 2);
        fault("10000", 4);
        fault("00000", 4);
        fault("1+00001", 6);
        fault("1.5", 1);
        fault("0x1", 1);
    }

    private static void noBlanks() {
        Check.says(0, "No blanks.");
        fault(" ", 0);
        fault(" 1", 0);
        fault("1 ", 1);
        fault("1 +1", 1);
        fault("1+ 1", 2);
        fault("1; 2", 2);
        fault("( 1)", 1);
        fault("1\t", 1);
        fault("1\n", 1);
        fault("\u0000", 0);
    }

    private static void names() {
        Check.says(0, "NAMES: a the colour of a SIDE, b that of the other one, n the CARD, m MANY, "
            + "s 0 for its first SIDE, 1 for the second.");
        OtherSide x = new OtherSide();
        for (int i = 0; i < 8; i++) {
            x.card(i == 7 ? 502 : 39);
        }
        String[] texts = {"a", "5-a", "b", "3-b", "n-5", "3-n", "m", "m-7", "s", "2-s"};
        // Of the first card's sides 0 and 3, nine of it; of the last card's sides 5 and 0, two of it.
        int[][] weights = {{0, 3, 3, 0}, {3, 2, 0, 3}, {3, 0, 0, 3}, {0, 3, 3, 0}, {1, 1, 2, 2}, {3, 3, 1, 1},
            {3, 3, 2, 2}, {2, 2, 1, 1}, {0, 1, 0, 1}, {2, 1, 2, 1}};
        for (int i = 0; i < texts.length; i++) {
            due("law " + texts[i], Check.law(x, texts[i]), 1);
            due(texts[i] + " of the first card's first side", x.weight(0, 0), weights[i][0]);
            due(texts[i] + " of its second side", x.weight(0, 1), weights[i][1]);
            due(texts[i] + " of the last card's first side", x.weight(7, 0), weights[i][2]);
            due(texts[i] + " of its second side", x.weight(7, 1), weights[i][3]);
        }
    }

    private static void otherNames() {
        Check.says(0, "NAMES: a the colour of a SIDE,");
        for (int letter = 0; letter < 256; letter++) {
            OtherSide x = new OtherSide();
            x.feed(letter);
            boolean stands = "abnms0123456789".indexOf(letter) >= 0;
            boolean mayGoOn = letter == '(' || letter == '!' || letter == '-';
            due("byte " + letter, x.law(), stands ? 1 : mayGoOn ? -101 : -100);
        }
    }

    private static void sixOpen() {
        Check.says(0, "At most 6 of ( ! - ahead of an O are open at once.");
        gives("((((((2))))))", 2, 2);
        fault("(((((((2)))))))", 6);
        gives("!!!!!!2+1", 2, 2);
        fault("!!!!!!!2", 6);
        gives("------2", 2, 2);
        fault("-------2", 6);
        gives("(!(-(-2)))+1", 1, 1);
        gives("-(-(-(2)))+4", 2, 2);
        fault("-(-(-(-2)))", 6);
        fault("((((((-1))))))", 6);
        fault("((((((!1))))))", 6);
        fault("!(-(!(1+(2))))", 8);
        gives("((((((3-1))))))", 2, 2);
        fault("1;(((((((1", 8);
        fault("1?(((((((1", 8);
        fault("((((((a+(1", 8);
    }

    private static void closedAgain() {
        Check.says(0, "At most 6 of ( ! - ahead of an O are open at once.");
        gives("((((((1))))))+((((((1))))))", 2, 2);
        gives("(1)+(1)+(1)+(1)+(1)+(1)+(1)-(5)", 2, 2);
        gives("!1+!1+!1+!1+!1+!1+!1+!0", 1, 1);
        gives("-1-1-1-1-1-1-1-1+9", 1, 1);
        gives("9--1--1-9", 2, 2);
        gives("!!!!!!1*!!!!!!1+1", 2, 2);
        gives("(!!!!!1+!!!!!1)+1", 1, 1);
        gives("2;((((((1))))))", 2, 2);
        gives("((((((1))))))?((((((2))))))", 2, 2);
    }

    private static void intsThatWrap() {
        Check.says(0, "Ints that wrap;");
        String least = "8192*8192*32";
        gives("(" + least + "<0)+1", 2, 2);
        gives("(" + least + "-1>0)+1", 2, 2);
        gives("(" + least + "-1+1<0)+1", 2, 2);
        gives("(-(" + least + ")<0)+1", 2, 2);
        gives("(" + least + "/-1<0)+1", 2, 2);
        gives("(" + least + "*-1<0)+1", 2, 2);
        gives("(" + least + "%-1)+2", 2, 2);
        is(least + "*2", "0");
        is(least + "+" + least, "0");
        is("9999*9999*9999", "-(1027*1000*1000+349*1000+969)");
    }

    private static void towardZero() {
        Check.says(0, "/ and % toward 0,");
        gives("7/2", 3, 3);
        gives("-7/2+5", 2, 2);
        gives("7/-2+5", 2, 2);
        gives("-7/-2", 3, 3);
        gives("-1/2+1", 1, 1);
        gives("7%4", 3, 3);
        gives("-7%4+5", 2, 2);
        gives("7%-4", 3, 3);
        gives("-7%-4+5", 2, 2);
    }

    private static void byZero() {
        Check.says(0, "by 0 they give 0;");
        gives("5/0+2", 2, 2);
        gives("5%0+2", 2, 2);
        gives("0/0+2", 2, 2);
        gives("0%0+2", 2, 2);
        gives("-5/(1-1)+2", 2, 2);
        gives("a/s+1", 1, 3);
        gives("(a+5)%s+1", 1, 1);
    }

    private static void oneAndZero() {
        Check.says(0, "| & < = > ! give 1, 0;");
        gives("(5|0)+1", 2, 2);
        gives("(0|-5)+1", 2, 2);
        gives("(0|0)+1", 1, 1);
        gives("(5&7)+1", 2, 2);
        gives("(5&0)+1", 1, 1);
        gives("(0&5)+1", 1, 1);
        gives("(2&4)+1", 2, 2);
        gives("(1<2)+1", 2, 2);
        gives("(2<2)+1", 1, 1);
        gives("(3<2)+1", 1, 1);
        gives("(1=2)+1", 1, 1);
        gives("(2=2)+1", 2, 2);
        gives("(1>2)+1", 1, 1);
        gives("(2>2)+1", 1, 1);
        gives("(3>2)+1", 2, 2);
        gives("(-1<0)+1", 2, 2);
        gives("!0+1", 2, 2);
        gives("!5+1", 1, 1);
        gives("!-5+1", 1, 1);
        gives("!!5+1", 2, 2);
    }

    private static void allIsWorkedOut() {
        Check.says(0, "all is worked out.");
        gives("(1|1/0)+1", 2, 2);
        gives("(0&1%0)+1", 1, 1);
        gives("0?5/0;2", 2, 2);
        gives("2;5/0", 2, 2);
        fault("1|", 2);
        fault("0&", 2);
        fault("2;x", 2);
    }

    private static void theFirstThatCounts() {
        Check.says(0, "The first LINE without a first E, or whose first E is not 0, counts;");
        gives("1;2;3", 1, 1);
        gives("0?1;2;3", 2, 2);
        gives("0?1;0?2;3", 3, 3);
        gives("0?1;1?2;3", 2, 2);
        gives("1?1;1?2;3", 1, 1);
        gives("s?3;2", 2, 3);
        gives("s=0?0;s?0;3", 1, 1);
        gives("s?0;3", 3, 0);
    }

    private static void noneCounts() {
        Check.says(0, "none: 0.");
        gives("0?3", 1, 1);
        gives("s?2", 0, 2);
        gives("!s?2", 2, 0);
        gives("s?2;s=2?3", 0, 2);
    }

    private static void firstByte() {
        Check.says(0, "FAULT: the place (from 0) of the first byte with which no TEXT goes on;");
        fault("x", 0);
        fault("1x", 1);
        fault("a=1?3;s,", 7);
        fault("(1+2;3)", 4);
        fault("x)y", 0);
        fault("1;2;?", 4);
        fault(many("1+", 59, "1x"), 119);
        fault("1\u00ff", 1);
        fault("1+\u00ff", 2);
    }

    private static void tooEarly() {
        Check.says(0, "the length, if it ends too early.");
        fault("", 0);
        fault("(", 1);
        fault("1+", 2);
        fault("1;", 2);
        fault("1?", 2);
        fault("(((1))", 6);
        fault("a<", 2);
        fault(many("1+", 60, ""), 120);
        fault(many("1;", 60, ""), 120);
    }

    // ---- weights

    private static void held() {
        Check.says(0, "It gives THE WEIGHT of a SIDE (held within 0 .. 3;");
        gives("s?-1;3", 3, 0);
        gives("s?-9999;1", 1, 0);
        gives("s?0;1", 1, 0);
        gives("s?8192*8192*32;1", 1, 0);
        gives("1", 1, 1);
        gives("2", 2, 2);
        gives("3", 3, 3);
        gives("4", 3, 3);
        gives("s?9999;2", 2, 3);
        gives("s?8192*8192*32-1;2", 2, 3);
    }

    private static void bothZero() {
        Check.says(0, "both 0: 1 both)");
        gives("0", 1, 1);
        gives("-5", 1, 1);
        gives("s-1", 1, 1);
        gives("s", 0, 1);
        gives("1-s", 1, 0);
        OtherSide x = new OtherSide();
        x.card(11);
        Check.law(x, "0");
        Check.chance("either side", x.shown(0, 0), x.shown(0, 1), 1, 2);
    }

    private static void byBothWeights() {
        Check.says(0, "it is SHOWN with the chance of its WEIGHT by both WEIGHTS.");
        for (int first = 0; first <= 3; first++) {
            for (int second = 0; second <= 3; second++) {
                OtherSide x = new OtherSide();
                x.card(11);
                Check.law(x, "s?" + second + ";" + first);
                int p = first + second == 0 ? 1 : first;
                int q = first + second == 0 ? 1 : second;
                Ratio shown = Ratio.of(p, p + q);
                Check.chance(first + " and " + second, x.shown(0, 0), x.shown(0, 1), shown.part(0), shown.part(1));
                shown = Ratio.of(q, p + q);
                Check.chance(second + " and " + first, x.shown(1, 0), x.shown(1, 1), shown.part(0), shown.part(1));
            }
        }
    }

    private static void withoutAText() {
        Check.says(0, "Without a text 1.");
        OtherSide x = new OtherSide();
        x.card(509);
        due("the first side", x.weight(0, 0), 1);
        due("the second side", x.weight(0, 1), 1);
        due("no text of nothing", x.law(), -100);
        due("the first side", x.weight(0, 0), 1);
        due("no text of a fault", Check.law(x, "3;"), -102);
        due("the first side", x.weight(0, 0), 1);
        due("the second side", x.weight(0, 1), 1);
    }
}
