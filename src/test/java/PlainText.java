/** TEXTS as the document's grammar tells them: a text is split at its weakest sign, nothing is read ahead. */
final class PlainText {
    private static final String[] NAMES = {"wps", "wvst"};
    /** The signs of T, A, B, S and P, the weakest first. */
    private static final String[] SIGNS = {"|", "&", "<=>", "+-", "*/%"};
    private static final int COMPARED = 2;

    private final String names;
    private final int[] values;

    PlainText(int use, int[] values) {
        this.names = NAMES[use];
        this.values = values;
    }

    /** What a text gives; null: it is no TEXT. */
    Integer worth(String text) {
        return split(text, 0, 0);
    }

    /** -1: none. A beginning goes on if one operand or none, and some brackets, make a TEXT of it. */
    int fault(String text) {
        for (int i = 0; i < text.length(); i++) {
            if (!goesOn(text.substring(0, i + 1))) {
                return i;
            }
        }
        return worth(text) == null ? text.length() : -1;
    }

    private boolean goesOn(String beginning) {
        for (int brackets = 0; brackets <= 5; brackets++) {
            String end = ")".repeat(brackets);
            if (worth(beginning + end) != null || worth(beginning + "1" + end) != null) {
                return true;
            }
        }
        return false;
    }

    private Integer split(String text, int level, int open) {
        if (level == SIGNS.length) {
            return operand(text, open);
        }
        int at = lastOutside(text, SIGNS[level]);
        if (at < 0) {
            return split(text, level + 1, open);
        }
        // S < S has no second sign of its kind on its left; the others go on from the left.
        Integer left = split(text.substring(0, at), level == COMPARED ? level + 1 : level, open);
        Integer right = split(text.substring(at + 1), level + 1, open);
        return left == null || right == null ? null : (Integer) join(left, text.charAt(at), right);
    }

    private static int lastOutside(String text, String signs) {
        int depth = 0;
        int last = -1;
        for (int i = 0; i < text.length(); i++) {
            char c = text.charAt(i);
            depth += c == '(' ? 1 : c == ')' ? -1 : 0;
            if (depth == 0 && signs.indexOf(c) >= 0) {
                last = i;
            }
        }
        return last;
    }

    private Integer operand(String text, int open) {
        if (text.matches("[0-9]{1,4}")) {
            return Integer.valueOf(text);
        }
        if (text.length() == 1 && names.indexOf(text) >= 0) {
            return values[names.indexOf(text)];
        }
        if (open == 5 || text.length() < 2) {
            return null;
        }
        if (text.charAt(0) == '!') {
            Integer inside = operand(text.substring(1), open + 1);
            return inside == null ? null : (Integer) (inside == 0 ? 1 : 0);
        }
        if (text.charAt(0) == '(' && text.charAt(text.length() - 1) == ')') {
            return split(text.substring(1, text.length() - 1), 0, open + 1);
        }
        return null;
    }

    private static int join(int a, char sign, int b) {
        switch (sign) {
            case '|': return a != 0 || b != 0 ? 1 : 0;
            case '&': return a != 0 && b != 0 ? 1 : 0;
            case '<': return a < b ? 1 : 0;
            case '=': return a == b ? 1 : 0;
            case '>': return a > b ? 1 : 0;
            case '+': return a + b;
            case '-': return a - b;
            case '*': return a * b;
            case '/': return b == 0 ? 0 : a / b;
            default: return b == 0 ? 0 : a % b;
        }
    }
}
