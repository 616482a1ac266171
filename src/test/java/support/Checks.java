/** Counts the answers that are not the ones that are due. */
final class Checks {
    static final int BEYOND = -1000000001;
    static final int NONE = -1000000002;
    static final int STATE = -1000000003;
    static final int FULL = -1000000004;
    static final int KIND = -1000000005;

    private static int asked = 0;
    private static int wrong = 0;

    private Checks() {
    }

    static void due(String what, long got, long want) {
        asked++;
        if (got != want) {
            wrong++;
            System.out.println(what + " answered " + got + ", due is " + want);
        }
    }

    static void holds(String what, boolean is) {
        asked++;
        if (!is) {
            wrong++;
            System.out.println(what + " doesn't hold");
        }
    }

    static int wrong() {
        return wrong;
    }

    static void end() {
        System.out.println(asked + " asked, " + wrong + " wrong");
        if (wrong != 0) {
            System.exit(1);
        }
    }

    /** Feeds a text, eight bytes a word, and gives what text(use) answers. */
    static int read(NinePots x, int use, String text) {
        feed(x, text);
        return x.text(use);
    }

    static int feed(NinePots x, String text) {
        int answer = 0;
        for (int at = 0; at < text.length(); at += 8) {
            int n = Math.min(8, text.length() - at);
            answer = x.feed(word(text, at, n), n);
        }
        return answer;
    }

    static long word(String text, int at, int n) {
        long word = 0;
        for (int i = n - 1; i >= 0; i--) {
            word = word << 8 | (text.charAt(at + i) & 255);
        }
        return word;
    }
}
