import java.util.ArrayDeque;
import java.util.Random;

/** Promises 12 to 14: feed, text, law. */
public final class TextsTest {
    private static final String[] NAMES = {"wps", "wvst"};

    public static void main(String[] args) {
        feeds();
        faultsByHand();
        faultsAgainstAnAutomaton();
        worthsByHand();
        worthsOfMadeTexts();
        withoutTexts();
        textsInPlaceOfOthers();
        Due.end();
    }

    private static void feeds() {
        GorgeWire x = new GorgeWire();
        Due.is("feed(.., 0)", x.feed(0, 0), Due.BEYOND);
        Due.is("feed(.., 9)", x.feed(0, 9), Due.BEYOND);
        Due.is("feed(.., -1)", x.feed(0, -1), Due.BEYOND);
        Due.is("feed(.., MIN)", x.feed(0, Integer.MIN_VALUE), Due.BEYOND);
        Due.is("feed(.., MAX)", x.feed(0, Integer.MAX_VALUE), Due.BEYOND);
        for (int i = 1; i <= 6; i++) {
            Due.is("feed 8", x.feed(0x3131313131313131L, 8), 8 * i);
        }
        Due.is("feed 3 of 2", x.feed(0, 3), Due.FULL);
        Due.is("feed 8 of 2", x.feed(0, 8), Due.FULL);
        Due.is("feed 9 of 2", x.feed(0, 9), Due.BEYOND);
        Due.is("count(5)", x.count(5), 48);
        Due.is("feed 2 of 2", x.feed(0, 2), 50);
        Due.is("feed 1 of 0", x.feed(0, 1), Due.FULL);
        Due.is("text(0)", x.text(0), -14);
        Due.is("count(5)", x.count(5), 0);
        Due.is("higher bytes are left out", x.feed(0x7777777777772b77L, 1), 1);
        Due.is("text(0)", x.text(0), 1);
        Due.is("the lowest first", x.feed('1' | '-' << 8 | '2' << 16, 3), 3);
        Due.is("text(1)", x.text(1), 1);
        Due.is("law: 1-2", x.law(1, 0, 0, 0, 0), -1);
        Due.is("told(4)", x.told(4), 3);
    }

    private static void fault(int use, String text, int due) {
        GorgeWire x = new GorgeWire();
        Due.is("text(" + use + ") of '" + text + "'", Due.text(x, use, text), due < 0 ? 1 : -10 - due);
        Due.is("THE TAPE is empty behind '" + text + "'", x.count(5), 0);
        for (int k = 1; k <= 5; k++) {
            Due.is("a FAULT is no ERROR", x.told(k), 0);
        }
    }

    private static void faultsByHand() {
        fault(0, "", 0);
        fault(0, "w", -1);
        fault(0, "p", -1);
        fault(0, "s", -1);
        fault(0, "v", 0);
        fault(0, "t", 0);
        fault(1, "w", -1);
        fault(1, "v", -1);
        fault(1, "s", -1);
        fault(1, "t", -1);
        fault(1, "p", 0);
        fault(0, "1234", -1);
        fault(0, "0000", -1);
        fault(0, "12345", 4);
        fault(0, "w+12345", 6);
        fault(0, "ww", 1);
        fault(0, "w1", 1);
        fault(0, "1w", 1);
        fault(0, " w", 0);
        fault(0, "w ", 1);
        fault(0, "-1", 0);
        fault(0, "w+", 2);
        fault(0, "w+-1", 2);
        fault(0, "w<1<2", 3);
        fault(0, "w=1>2", 3);
        fault(0, "(w<1)<2", -1);
        fault(0, "w<1&w>2|s=3", -1);
        fault(0, "w<=1", 2);
        fault(0, "w&&p", 2);
        fault(0, "()", 1);
        fault(0, ")", 0);
        fault(0, "w)", 1);
        fault(0, "(w", 2);
        fault(0, "(w))", 3);
        fault(0, "(w(", 2);
        fault(0, "w!", 1);
        fault(0, "!", 1);
        fault(0, "!!!!!w", -1);
        fault(0, "!!!!!!w", 5);
        fault(0, "(((((w)))))", -1);
        fault(0, "((((((w))))))", 5);
        fault(0, "!(!(!w))", -1);
        fault(0, "!(!(!(w)))", 5);
        fault(0, "!(!(!!w))", 5);
        fault(0, "!!!!!w+!!!!!w", -1);
        fault(0, "((((!w+(w)))))", -1);
        fault(0, "((((!w+!w))))", -1);
        fault(0, "((((!(w", 5);
        fault(0, "((((!w", 6);
        fault(0, "((((w)+(w)*!1))))", 16);
        fault(0, "w\0", 1);
        fault(0, "\u00b1", 0);
        fault(0, "w\u00ab1", 1);
        fault(1, "1+1+1+1+1+1+1+1+1+1+1+1+1+1+1+1+1+1+1+1+1+1+1+1+1", -1);
        fault(1, "1+".repeat(23) + "111+", 50);
        fault(1, "1*1*1*1*1*1*1*1*1*1*1*1*1*1*1*1*1*1*1*1*1*1*1*1**", 48);
        fault(1, "1|1|1|1|1|1|1|1|1|1|1|1|1|1|1|1|1|1|1|1|1|1|1|1|0", -1);
        fault(1, "1&1&1&1&1&1&1&1&1&1&1&1&1&1&1&1&1&1&1&1&1&1&1&1&v", -1);
        fault(1, "!v!", 2);
        GorgeWire x = new GorgeWire();
        Due.feed(x, "w+1");
        Due.is("text(2)", x.text(2), Due.BEYOND);
        Due.is("text(-1)", x.text(-1), Due.BEYOND);
        Due.is("text(MIN)", x.text(Integer.MIN_VALUE), Due.BEYOND);
        Due.is("THE TAPE stays", x.count(5), 3);
        Due.is("text(1)", x.text(1), 1);
        Due.is("law(1, 7, ..)", x.law(1, 7, 0, 0, 0), 8);
    }

    /** FAULT by a push-down automaton that knows only what may come next; -1: none. */
    private static int faultDue(String text, String names) {
        ArrayDeque<Character> open = new ArrayDeque<>();
        ArrayDeque<Boolean> comparedOutside = new ArrayDeque<>();
        boolean wantsOperand = true;
        boolean compared = false;
        int digits = 0;
        for (int i = 0; i < text.length(); i++) {
            char c = text.charAt(i);
            if (wantsOperand) {
                if (c == '!' || c == '(') {
                    if (open.size() == 5) {
                        return i;
                    }
                    open.push(c);
                    if (c == '(') {
                        comparedOutside.push(compared);
                        compared = false;
                    }
                    continue;
                }
                if (!Character.isDigit(c) && names.indexOf(c) < 0) {
                    return i;
                }
                digits = Character.isDigit(c) ? 1 : 4;
                wantsOperand = false;
                closeNots(open);
            } else if (c >= '0' && c <= '9') {
                if (digits >= 4) {
                    return i;
                }
                digits++;
            } else if (c == ')') {
                if (open.isEmpty()) {
                    return i;
                }
                open.pop();
                compared = comparedOutside.pop();
                closeNots(open);
                digits = 4;
            } else if ("<=>".indexOf(c) >= 0) {
                if (compared) {
                    return i;
                }
                compared = true;
                wantsOperand = true;
            } else if ("+-*/%&|".indexOf(c) >= 0) {
                compared = compared && c != '&' && c != '|';
                wantsOperand = true;
            } else {
                return i;
            }
        }
        return wantsOperand || !open.isEmpty() ? text.length() : -1;
    }

    private static void closeNots(ArrayDeque<Character> open) {
        while (!open.isEmpty() && open.peek() == '!') {
            open.pop();
        }
    }

    private static void faultsAgainstAnAutomaton() {
        Random random = new Random(3);
        String signs = "wpsvt0199!!((())+-*/%<=>&|";
        for (int round = 0; round < 40000; round++) {
            int use = round & 1;
            StringBuilder text = new StringBuilder();
            int length = random.nextInt(50);
            // Mostly a sign that may come next, so that long TEXTS come to be.
            for (int i = 0; i < length; i++) {
                char c = signs.charAt(random.nextInt(signs.length()));
                for (int tries = 0; tries < 12 && random.nextInt(60) != 0; tries++) {
                    int fault = faultDue(text.toString() + c, NAMES[use]);
                    if (fault < 0 || fault > i) {
                        break;
                    }
                    c = signs.charAt(random.nextInt(signs.length()));
                }
                text.append(c);
            }
            GorgeWire x = new GorgeWire();
            int due = faultDue(text.toString(), NAMES[use]);
            Due.is("text(" + use + ") of '" + text + "'", Due.text(x, use, text.toString()),
                    due < 0 ? 1 : -10 - due);
        }
    }

    private static int worth(String text, int w, int v, int s, int t) {
        GorgeWire x = new GorgeWire();
        Due.is("text(1) of '" + text + "'", Due.text(x, 1, text), 1);
        return x.law(1, w, v, s, t);
    }

    private static void worthsByHand() {
        Due.is("names in order", worth("w*1000+v*100+s*10+t", 1, 2, 3, 4), 1234);
        Due.is("from the left", worth("9-4-3", 0, 0, 0, 0), 2);
        Due.is("from the left", worth("90/4/3", 0, 0, 0, 0), 7);
        Due.is("from the left", worth("7*9%5/2", 0, 0, 0, 0), 1);
        Due.is("* ahead of +", worth("2+3*4", 0, 0, 0, 0), 14);
        Due.is("+ ahead of <", worth("2+3<4", 0, 0, 0, 0), 0);
        Due.is("< ahead of &", worth("1&2<3", 0, 0, 0, 0), 1);
        Due.is("& ahead of |", worth("1|0&0", 0, 0, 0, 0), 1);
        Due.is("brackets", worth("(2+3)*4", 0, 0, 0, 0), 20);
        Due.is("! ahead of *", worth("!0*7", 0, 0, 0, 0), 7);
        Due.is("! of a bracket", worth("!(1-1)", 0, 0, 0, 0), 1);
        Due.is("!!", worth("!!9", 0, 0, 0, 0), 1);
        Due.is("| gives 1", worth("5|0", 0, 0, 0, 0), 1);
        Due.is("| gives 0", worth("0|0", 0, 0, 0, 0), 0);
        Due.is("& gives 1", worth("5&6", 0, 0, 0, 0), 1);
        Due.is("& of other bits", worth("4&2", 0, 0, 0, 0), 1);
        Due.is("& gives 0", worth("5&0", 0, 0, 0, 0), 0);
        Due.is("below 0 is true", worth("w&1", -1, 0, 0, 0), 1);
        Due.is("<", worth("w<v", -1, 0, 0, 0), 1);
        Due.is("<", worth("w<v", 3, 3, 0, 0), 0);
        Due.is(">", worth("w>v", 3, 3, 0, 0), 0);
        Due.is(">", worth("w>v", Integer.MAX_VALUE, Integer.MIN_VALUE, 0, 0), 1);
        Due.is("=", worth("w=v", 3, 3, 0, 0), 1);
        Due.is("=", worth("w=v", 3, 4, 0, 0), 0);
        Due.is("/ cut", worth("w/v", -7, 2, 0, 0), -3);
        Due.is("% of below 0", worth("w%v", -7, 2, 0, 0), -1);
        Due.is("% by below 0", worth("w%v", 7, -2, 0, 0), 1);
        Due.is("/ by 0", worth("w/v", 7, 0, 0, 0), 0);
        Due.is("% by 0", worth("w%v", 7, 0, 0, 0), 0);
        Due.is("/ wraps", worth("w/v", Integer.MIN_VALUE, -1, 0, 0), Integer.MIN_VALUE);
        Due.is("% of that", worth("w%v", Integer.MIN_VALUE, -1, 0, 0), 0);
        Due.is("* wraps", worth("w*v", 65536, 65537, 0, 0), 65536);
        Due.is("+ wraps", worth("w+1", Integer.MAX_VALUE, 0, 0, 0), Integer.MIN_VALUE);
        Due.is("- wraps", worth("w-1", Integer.MIN_VALUE, 0, 0, 0), Integer.MAX_VALUE);
        Due.is("numbers", worth("9999", 0, 0, 0, 0), 9999);
        Due.is("numbers with 0 ahead", worth("0010", 0, 0, 0, 0), 10);
        Due.is("any number, no ERROR", worth("w", Due.LOW - 3, 0, 0, 0), Due.LOW - 3);
    }

    /** A made TEXT, with what it is worth. */
    private static final class Made {
        final String text;
        final int worth;

        Made(String text, int worth) {
            this.text = text;
            this.worth = worth;
        }
    }

    private static Made make(Random random, int level, int open, int[] values) {
        if (level == 5) {
            return makeSingle(random, open, values);
        }
        Made left = make(random, level + 1, open, values);
        int more = random.nextInt(5) < 3 ? 0 : level == 2 ? 1 : 1 + random.nextInt(2);
        for (int i = 0; i < more; i++) {
            Made right = make(random, level + 1, open, values);
            String[] signs = {"|", "&", "<=>", "+-", "*/%"};
            char sign = signs[level].charAt(random.nextInt(signs[level].length()));
            left = new Made(left.text + sign + right.text, apply(sign, left.worth, right.worth));
        }
        return left;
    }

    private static Made makeSingle(Random random, int open, int[] values) {
        int choice = random.nextInt(open < 5 ? 6 : 4);
        if (choice < 2) {
            int number = random.nextInt(random.nextBoolean() ? 4 : 10000);
            return new Made(Integer.toString(number), number);
        }
        if (choice < 4) {
            int name = random.nextInt(4);
            return new Made("wvst".substring(name, name + 1), values[name]);
        }
        if (choice == 4) {
            Made inside = makeSingle(random, open + 1, values);
            return new Made("!" + inside.text, inside.worth == 0 ? 1 : 0);
        }
        Made inside = make(random, 0, open + 1, values);
        return new Made("(" + inside.text + ")", inside.worth);
    }

    private static int apply(char sign, int a, int b) {
        switch (sign) {
            case '|': return a != 0 || b != 0 ? 1 : 0;
            case '&': return a != 0 && b != 0 ? 1 : 0;
            case '<': return a < b ? 1 : 0;
            case '=': return a == b ? 1 : 0;
            case '>': return a > b ? 1 : 0;
            case '+': return a + b;
            case '-': return a - b;
            case '*': return a * b;
            case '/': return b == 0 ? 0 : a / b;
            default: return b == 0 ? 0 : a % b;
        }
    }

    private static void worthsOfMadeTexts() {
        Random random = new Random(5);
        for (int round = 0; round < 20000; round++) {
            int[] values = new int[4];
            for (int i = 0; i < 4; i++) {
                values[i] = random.nextBoolean() ? random.nextInt(5) - 2 : random.nextInt();
            }
            Made made = make(random, 0, 0, values);
            if (made.text.length() <= 50) {
                Due.is("law of '" + made.text + "'", worth(made.text, values[0], values[1], values[2], values[3]),
                        made.worth);
            }
        }
    }

    private static void withoutTexts() {
        GorgeWire x = new GorgeWire();
        Due.is("law(2, ..)", x.law(2, 0, 0, 0, 0), Due.BEYOND);
        Due.is("law(-1, ..)", x.law(-1, 0, 0, 0, 0), Due.BEYOND);
        int[] numbers = {0, 1, 4, 5, 99, 100, 101, 199, 200, 500, 9899, 9900, 9999, 429496730,
            -1, -99, -100, -200, Integer.MAX_VALUE, Integer.MIN_VALUE};
        for (int a : numbers) {
            x = new GorgeWire();
            for (int b : numbers) {
                int wear = Math.max(0, Math.min(99, a / 100 + (b > 100 ? 1 : 0)));
                Due.is("law(0, " + a + ", " + b + ", ..)", x.law(0, a, b, 3, 9), wear);
                Due.is("law(1, " + a + ", .., " + b + ")", x.law(1, a, 7, b, 8), b * 5 > a ? 1 : 0);
            }
        }
    }

    private static void textsInPlaceOfOthers() {
        GorgeWire x = new GorgeWire();
        Due.is("text(0)", Due.text(x, 0, "w+p*10+s*100"), 1);
        Due.is("law(0)", x.law(0, 1, 2, 0, 99), 21);
        Due.is("WEAR is held above", x.law(0, 0, 0, 1, 0), 99);
        Due.is("WEAR is held below", x.law(0, -1, 0, 0, 0), 0);
        Due.is("GOES is as ahead", x.law(1, 4, 0, 1, 0), 1);
        Due.is("text with a FAULT", Due.text(x, 0, "w+v"), -12);
        Due.is("the one ahead stays", x.law(0, 1, 2, 0, 99), 21);
        Due.is("text with a FAULT at once", Due.text(x, 0, "+7"), -10);
        Due.is("the one ahead stays", x.law(0, 1, 2, 0, 99), 21);
        Due.is("text of an empty TAPE", x.text(0), -10);
        Due.is("the one ahead stays", x.law(0, 1, 2, 0, 99), 21);
        Due.is("a shorter one", Due.text(x, 0, "7"), 1);
        Due.is("in place of it", x.law(0, 1, 2, 0, 99), 7);
        Due.is("GOES", Due.text(x, 1, "w-v"), 1);
        Due.is("of GOES any number", x.law(1, 5, 1005, 0, 0), -1000);
        Due.is("WEAR stays", x.law(0, 1, 2, 0, 99), 7);
    }
}
