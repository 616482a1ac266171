import java.util.TreeSet;

/**
 * TEXTS by the document's rules as sets of ends, with no thought of speed: so
 * that it goes another way than the reader that it tests.
 */
final class Grammar {
    private final String text;
    private final String names;

    private Grammar(String text, String names) {
        this.text = text;
        this.names = names;
    }

    static boolean isText(String text, String names) {
        return new Grammar(text, names).ends("T", 0, 0).contains(text.length());
    }

    /** Whether some TEXT begins so: an operand, if one is due, and all that is open closed. */
    static boolean beginsText(String begin, String names) {
        for (String operand : new String[] {"", "1"}) {
            String whole = begin + operand;
            for (int i = 0; i <= 6; i++) {
                if (isText(whole, names)) {
                    return true;
                }
                whole += ")";
            }
        }
        return false;
    }

    /** -1 if it is a TEXT, else the FAULT. */
    static int fault(String text, String names) {
        for (int n = 1; n <= text.length(); n++) {
            if (!beginsText(text.substring(0, n), names)) {
                return n - 1;
            }
        }
        return isText(text, names) ? -1 : text.length();
    }

    private TreeSet<Integer> ends(String rule, int from, int open) {
        switch (rule) {
            case "T":
                return chain("A", "|", from, open, 99);
            case "A":
                return chain("B", "&", from, open, 99);
            case "B":
                return chain("S", "<=>", from, open, 1);
            case "S":
                return chain("P", "+-", from, open, 99);
            case "P":
                return chain("Q", "*/%", from, open, 99);
            default:
                return endsOfQ(from, open);
        }
    }

    private TreeSet<Integer> chain(String part, String operators, int from, int open, int most) {
        TreeSet<Integer> all = new TreeSet<>(ends(part, from, open));
        TreeSet<Integer> latest = new TreeSet<>(all);
        for (int i = 0; i < most && !latest.isEmpty(); i++) {
            TreeSet<Integer> next = new TreeSet<>();
            for (int end : latest) {
                if (end < text.length() && operators.indexOf(text.charAt(end)) >= 0) {
                    next.addAll(ends(part, end + 1, open));
                }
            }
            latest = next;
            all.addAll(next);
        }
        return all;
    }

    private TreeSet<Integer> endsOfQ(int from, int open) {
        TreeSet<Integer> ends = new TreeSet<>();
        if (from >= text.length()) {
            return ends;
        }
        char sign = text.charAt(from);
        for (int i = from; i < from + 4 && i < text.length() && "0123456789".indexOf(text.charAt(i)) >= 0; i++) {
            ends.add(i + 1);
        }
        if (names.indexOf(sign) >= 0) {
            ends.add(from + 1);
        }
        if (open < 5 && sign == '!') {
            ends.addAll(ends("Q", from + 1, open + 1));
        }
        if (open < 5 && sign == '(') {
            for (int end : ends("T", from + 1, open + 1)) {
                if (end < text.length() && text.charAt(end) == ')') {
                    ends.add(end + 1);
                }
            }
        }
        return ends;
    }

    /** What a TEXT gives: split at its loosest operator, the rightmost of them. */
    static int value(String text, String names, int[] given) {
        for (String operators : new String[] {"|", "&", "<=>", "+-", "*/%"}) {
            int at = rightmost(text, operators);
            if (at >= 0) {
                int left = value(text.substring(0, at), names, given);
                int right = value(text.substring(at + 1), names, given);
                return joined(text.charAt(at), left, right);
            }
        }
        char first = text.charAt(0);
        if (first == '!') {
            return value(text.substring(1), names, given) == 0 ? 1 : 0;
        }
        if (first == '(') {
            return value(text.substring(1, text.length() - 1), names, given);
        }
        int name = names.indexOf(first);
        return name >= 0 ? given[name] : Integer.parseInt(text);
    }

    private static int rightmost(String text, String operators) {
        int open = 0;
        for (int i = text.length() - 1; i >= 0; i--) {
            char sign = text.charAt(i);
            open += sign == ')' ? 1 : sign == '(' ? -1 : 0;
            if (open == 0 && operators.indexOf(sign) >= 0) {
                return i;
            }
        }
        return -1;
    }

    private static int joined(char operator, int left, int right) {
        switch (operator) {
            case '|':
                return left != 0 | right != 0 ? 1 : 0;
            case '&':
                return left != 0 & right != 0 ? 1 : 0;
            case '<':
                return left < right ? 1 : 0;
            case '=':
                return left == right ? 1 : 0;
            case '>':
                return left > right ? 1 : 0;
            case '+':
                return (int) ((long) left + right);
            case '-':
                return (int) ((long) left - right);
            case '*':
                return (int) ((long) left * right);
            case '/':
                return right == 0 ? 0 : (int) ((long) left / right);
            default:
                return right == 0 ? 0 : (int) ((long) left % right);
        }
    }
}
