import java.util.ArrayList;
import java.util.List;
import java.util.Random;

/** Promises 6 to 8: feed, law, weight. */
public final class LawTest {
    private static final String SIGNS = "abnms0123456789!-()+*/%<=>&|?;";

    public static void main(String[] args) {
        feed();
        becomes();
        faults();
        meanings();
        weightRefusals();
        heldWeights();
        randomFaults();
        randomValues();
        longest();
        Check.end("LawTest");
    }

    private static void feed() {
        OtherSide x = new OtherSide();
        int[] bad = {-1, 256, 1000, Integer.MIN_VALUE, Integer.MAX_VALUE};
        for (int letter : bad) {
            Check.due("feed " + letter, x.feed(letter), OtherSide.BAD);
        }
        for (int i = 1; i <= 120; i++) {
            Check.due("feed", x.feed(i == 1 ? 0 : 255), i);
        }
        Check.due("feed one more", x.feed('1'), OtherSide.FULL);
        Check.due("feed a bad one more", x.feed(256), OtherSide.BAD);
        Check.due("bytes on the tape", x.count(2), 120);
        Check.due("no law", x.law(), -100);
        Check.due("empty then", x.count(2), 0);
        Check.due("feed again", x.feed('1'), 1);
    }

    private static void becomes() {
        OtherSide x = new OtherSide();
        x.card(11);
        Check.due("empty", x.law(), -100);
        Check.due("without a text", x.weight(0, 0), 1);
        Check.due("a law", Check.law(x, "s+2"), 1);
        Check.due("first", x.weight(0, 0), 2);
        Check.due("second", x.weight(0, 1), 3);
        Check.due("a fault", Check.law(x, "s+"), -102);
        Check.due("the law stays", x.weight(0, 0), 2);
        Check.due("a fault at the first byte", Check.law(x, ")"), -100);
        Check.due("the law stays", x.weight(0, 0), 2);
        Check.due("an empty tape", x.law(), -100);
        Check.due("the law stays", x.weight(0, 1), 3);
        Check.due("the tape is empty", x.count(2), 0);
        Check.due("another law", Check.law(x, "3-s"), 1);
        Check.due("first", x.weight(0, 0), 3);
        Check.due("second", x.weight(0, 1), 2);
        Check.due("no change", x.count(3), 0);
    }

    private static void faults() {
        String[] texts = {"", ";", "1;", "1;;1", "a?", "a?1?2", "1?", "?1", "12345", "1234", "0000", "00000", "aa",
            "a1", "1a", "1 + 1", " 1", "1 ", "x", "()", "(1", "(1)", "1)", "(1;2)", "(1?2)", "1<2<3", "1<2=3", "(1<2)<3",
            "1<2&3<4|5=6", "1--1", "1---1", "!!!!!!1", "!!!!!!!1", "((((((1))))))", "(((((((1)))))))", "-(-(-(1)))",
            "-(-(-(-1)))", "-(-(-(1-1)))", "!1+!1+!1+!1+!1+!1+!1+!1", "(1)+(2)+(3)+(4)+(5)+(6)+(7)", "!!!!!!(1)",
            "!!!!!(1)+!!!!!!1", "a=1?3;s", "1+", "*1", "+1", "1**2", "a|b&n<m+s*1", "a||b", "a&&b", "a==b", "\u00e9",
            "a\u0000", "-", "!", "(", "((((((", "(((((((", "((((((a*b-1", "A", "1,2", "1.5", "a?b;c",
            "1?((((((1))))))", "1?(((((((1)))))))", "1;((((((1))))))", "1;!!!!!!!1", "((((((1))))))?!!!!!!1"};
        int[] due = {0, 0, 2, 2, 2, 3, 2, 0, 4, -1, -1, 4, 1, 1, 1, 1, 0, 1, 0, 1, 2, -1, 1, 2, 2, 3, 3, -1,
            -1, -1, -1, -1, 6, -1, 6, -1, 6, -1, -1, -1, 6,
            -1, -1, 2, 0, 0, 2, -1, 2, 2, 2, 0, 1, 1, 1, 1, 6, 6, 11, 0, 1, 1, 4,
            -1, 8, -1, 8, -1};
        Check.due("as many faults as texts", due.length, texts.length);
        for (int i = 0; i < texts.length && i < due.length; i++) {
            OtherSide x = new OtherSide();
            Check.due("law " + texts[i], Check.law(x, texts[i]), due[i] < 0 ? 1 : -100 - due[i]);
            Check.due("the oracle of " + texts[i], fault(texts[i]), due[i]);
        }
    }

    private static void meanings() {
        String[] texts = {"a", "b", "n", "m", "s+1", "3;2", "0?3;2", "1?3;2", "s?3;2", "s=0?3", "a<b", "a>b", "a=b",
            "3/0", "3%0+1", "0-7/2+6", "-7/2+6", "-7%4+5", "!5+1", "!0+1", "2&4|0", "1|0&0", "(1|0)&0+2", "1+2*3-4",
            "9999*9999*9999", "2*-1+4", "1<2+3", "-a+3", "!a=0", "10-3-5", "16/4/2", "7%4*2-3", "0", "a&0", "n+1", "n+s+1"};
        // Of a card of sides 1 and 2, five of which are in the hat, number 1: of its first side, of its second.
        int[][] due = {{1, 2}, {2, 1}, {1, 1}, {3, 3}, {1, 2}, {3, 3}, {2, 2}, {3, 3}, {2, 3}, {3, 0}, {1, 0}, {0, 1},
            {1, 1}, {1, 1}, {1, 1}, {3, 3}, {3, 3}, {2, 2}, {1, 1}, {2, 2}, {1, 1}, {1, 1}, {1, 1}, {3, 3},
            {0, 0}, {2, 2}, {1, 1}, {2, 1}, {1, 1}, {2, 2}, {2, 2}, {3, 3}, {1, 1}, {1, 1}, {2, 2}, {2, 3}};
        due[24] = 9999 * 9999 * 9999 > 0 ? new int[] {3, 3} : new int[] {1, 1};
        Check.due("as many as texts", due.length, texts.length);
        for (int i = 0; i < texts.length && i < due.length; i++) {
            OtherSide x = new OtherSide();
            x.card(1);
            x.card(125);
            Check.due("law " + texts[i], Check.law(x, texts[i]), 1);
            Check.due(texts[i] + " first", x.weight(1, 0), due[i][0]);
            Check.due(texts[i] + " second", x.weight(1, 1), due[i][1]);
        }
    }

    private static void weightRefusals() {
        OtherSide x = new OtherSide();
        Check.due("no card", x.weight(0, 0), OtherSide.BAD);
        x.card(0);
        int[][] bad = {{1, 0}, {-1, 0}, {0, 2}, {0, -1}, {8, 0}, {Integer.MAX_VALUE, 0}, {0, Integer.MIN_VALUE}};
        for (int[] b : bad) {
            Check.due("weight " + b[0] + " " + b[1], x.weight(b[0], b[1]), OtherSide.BAD);
        }
        Check.due("without a text", x.weight(0, 1), 1);
    }

    private static void heldWeights() {
        OtherSide x = new OtherSide();
        x.card(9);
        Check.law(x, "s?0-5;m");
        Check.due("above 3", x.weight(0, 0), 3);
        Check.due("below 0", x.weight(0, 1), 0);
        x.mend(0, 0, 2);
        Check.due("MANY as it is now", x.weight(0, 0), 2);
        x.draw(1);
        Check.due("MANY in the hat", x.weight(0, 0), 1);
        x.draw(1);
        Check.due("both 0", x.weight(0, 0), 1);
        Check.due("both 0: 1 both", x.weight(0, 1), 1);
        x.putBack();
        Check.due("put back", x.weight(0, 0), 2);
        Check.due("put back", x.weight(0, 1), 0);
    }

    /** The fault of a text by a machine of its own: what may come next, and what is open; -1: none. */
    private static int fault(String text) {
        List<Character> open = new ArrayList<>();
        List<Boolean> compared = new ArrayList<>();
        compared.add(false);
        boolean asked = false;
        boolean operand = true;
        int i = 0;
        while (i < text.length()) {
            char c = text.charAt(i);
            int last = compared.size() - 1;
            if (operand && c >= '0' && c <= '9') {
                int digits = 0;
                while (i < text.length() && digits < 4 && Character.isDigit(text.charAt(i)) && text.charAt(i) < 128) {
                    i++;
                    digits++;
                }
                i--;
                operand = false;
                closeSingle(open);
            } else if (operand && "abnms".indexOf(c) >= 0) {
                operand = false;
                closeSingle(open);
            } else if (operand && "(!-".indexOf(c) >= 0 && open.size() < 6) {
                open.add(c);
                if (c == '(') {
                    compared.add(false);
                }
            } else if (operand) {
                return i;
            } else if ("+-*/%".indexOf(c) >= 0) {
                operand = true;
            } else if ("<=>".indexOf(c) >= 0 && !compared.get(last)) {
                compared.set(last, true);
                operand = true;
            } else if ("&|".indexOf(c) >= 0) {
                compared.set(last, false);
                operand = true;
            } else if (c == ')' && !open.isEmpty()) {
                open.remove(open.size() - 1);
                compared.remove(last);
                closeSingle(open);
            } else if (c == '?' && open.isEmpty() && !asked || c == ';' && open.isEmpty()) {
                asked = c == '?';
                compared.set(0, false);
                operand = true;
            } else {
                return i;
            }
            i++;
        }
        return operand || !open.isEmpty() ? text.length() : -1;
    }

    private static void closeSingle(List<Character> open) {
        while (!open.isEmpty() && open.get(open.size() - 1) != '(') {
            open.remove(open.size() - 1);
        }
    }

    private static void randomFaults() {
        Random random = new Random(1);
        for (int run = 0; run < 60000; run++) {
            String text = run % 2 == 0 ? anyText(random) : bent(random, tree(random, 4).text);
            OtherSide x = new OtherSide();
            int fault = fault(text);
            Check.due("law " + text, Check.law(x, text), fault < 0 ? 1 : -100 - fault);
        }
    }

    private static String anyText(Random random) {
        StringBuilder b = new StringBuilder();
        int length = random.nextInt(14);
        for (int i = 0; i < length; i++) {
            b.append(SIGNS.charAt(random.nextInt(SIGNS.length())));
        }
        return b.toString();
    }

    private static String bent(Random random, String text) {
        StringBuilder b = new StringBuilder(text);
        b.setLength(Math.min(b.length(), 110));
        int times = random.nextInt(3);
        for (int i = 0; i < times; i++) {
            char sign = SIGNS.charAt(random.nextInt(SIGNS.length()));
            int at = random.nextInt(b.length());
            if (random.nextBoolean()) {
                b.insert(at, sign);
            } else {
                b.setCharAt(at, sign);
            }
        }
        return b.toString();
    }

    /** A random part of a text, how tight it binds (0 loosest to 5) and its value for a card's first side. */
    private static final class Tree {
        String text;
        int tight;
        int value;
        int open;
    }

    private static final int[] NAMED = {4, 2, 3, 7, 0};

    private static Tree tree(Random random, int depth) {
        int kind = depth <= 0 ? random.nextInt(2) : random.nextInt(14);
        Tree t = new Tree();
        t.tight = 5;
        if (kind == 0) {
            t.value = random.nextInt(4) == 0 ? random.nextInt(10000) : random.nextInt(10);
            t.text = Integer.toString(t.value);
        } else if (kind == 1) {
            int name = random.nextInt(5);
            t.value = NAMED[name];
            t.text = "abnms".substring(name, name + 1);
        } else if (kind == 2 || kind == 3) {
            Tree o = within(tree(random, depth - 1), 5);
            t.text = (kind == 2 ? "!" : "-") + o.text;
            t.value = kind == 2 ? (o.value == 0 ? 1 : 0) : -o.value;
            t.open = o.open + 1;
        } else {
            joined(random, t, depth);
        }
        return t;
    }

    private static void joined(Random random, Tree t, int depth) {
        String signs = "|&<=>+-*/%";
        int[] levels = {0, 1, 2, 2, 2, 3, 3, 4, 4, 4};
        int which = random.nextInt(signs.length());
        t.tight = levels[which];
        Tree left = within(tree(random, depth - 1), t.tight == 2 ? 3 : t.tight);
        Tree right = within(tree(random, depth - 1), t.tight + 1);
        t.text = left.text + signs.charAt(which) + right.text;
        t.open = Math.max(left.open, right.open);
        int l = left.value;
        int r = right.value;
        switch (signs.charAt(which)) {
            case '|': t.value = l != 0 || r != 0 ? 1 : 0; break;
            case '&': t.value = l != 0 && r != 0 ? 1 : 0; break;
            case '<': t.value = l < r ? 1 : 0; break;
            case '=': t.value = l == r ? 1 : 0; break;
            case '>': t.value = l > r ? 1 : 0; break;
            case '+': t.value = l + r; break;
            case '-': t.value = l - r; break;
            case '*': t.value = l * r; break;
            case '/': t.value = r == 0 ? 0 : l / r; break;
            default: t.value = r == 0 ? 0 : l % r;
        }
    }

    private static Tree within(Tree t, int tight) {
        if (t.tight < tight) {
            t.text = "(" + t.text + ")";
            t.tight = 5;
            t.open++;
        }
        return t;
    }

    private static void randomValues() {
        Random random = new Random(2);
        int tried = 0;
        while (tried < 30000) {
            Tree t = tree(random, 4);
            if (t.open > 4 || t.text.length() > 95) {
                continue;
            }
            tried++;
            int rest = t.value % 9973;
            String text = "s?1;((" + t.text + ")%9973=" + rest + ")*2+1";
            OtherSide x = new OtherSide();
            x.card(1);
            x.card(2);
            x.card(3);
            x.card(427);
            Check.due("law " + text, Check.law(x, text), 1);
            Check.due(t.text + " is " + t.value, x.weight(3, 0), 3);
        }
    }

    private static void longest() {
        StringBuilder b = new StringBuilder("3");
        while (b.length() < 119) {
            b.append("+0");
        }
        OtherSide x = new OtherSide();
        x.card(1);
        Check.due("119 bytes", Check.law(x, b.toString()), 1);
        Check.due("their weight", x.weight(0, 0), 3);
        Check.due("120 bytes", Check.law(x, "1" + b), 1);
        Check.due("held", x.weight(0, 0), 3);
        StringBuilder lines = new StringBuilder();
        while (lines.length() < 116) {
            lines.append("0?3;");
        }
        Check.due("30 lines", Check.law(x, lines + "s+1"), 1);
        Check.due("only the last counts", x.weight(0, 1), 2);
        StringBuilder ends = new StringBuilder();
        while (ends.length() < 120) {
            ends.append("1+");
        }
        Check.due("120 bytes, too early an end", Check.law(x, ends.toString()), -220);
    }
}
