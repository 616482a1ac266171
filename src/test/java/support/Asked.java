import java.util.ArrayList;
import java.util.List;

/** An object with its calls counted, and all that can be asked of it. */
final class Asked {
    private static final int CALLS_MOST = 512;

    private final NinePots pots = new NinePots();
    private final List<String> answers = new ArrayList<>();
    private int calls = 0;

    long ask(String name, long... arguments) {
        calls++;
        if (calls > CALLS_MOST) {
            throw new IllegalStateException("a test asks more than " + CALLS_MOST + " calls of one object");
        }
        return Calls.make(pots, name, arguments);
    }

    void feed(String text) {
        for (int at = 0; at < text.length(); at += 8) {
            int n = Math.min(8, text.length() - at);
            ask("feed", Checks.word(text, at, n), n);
        }
    }

    long read(int use, String text) {
        feed(text);
        return ask("text", use);
    }

    /** Each answer behind its call. The object isn't good for much afterwards: some of these calls change it. */
    List<String> everything() {
        answers.clear();
        looksAtTrace();
        looksAtWhole();
        looksAtSheets();
        notes("restore");
        looksAtWhole();
        notes("image");
        return answers;
    }

    private void notes(String name, long... arguments) {
        StringBuilder call = new StringBuilder(name).append('(');
        for (long argument : arguments) {
            call.append(argument).append(',');
        }
        answers.add(call.append(") is ").append(ask(name, arguments)).toString());
    }

    private void looksAtTrace() {
        for (int i = 0; i < 15; i++) {
            notes("trace", i);
        }
    }

    /** What an IMAGE keeps. */
    private void looksAtWhole() {
        for (int what = 0; what <= 10; what++) {
            notes("count", what);
        }
        for (int buyer = 0; buyer < 8; buyer++) {
            for (int what = 0; what < 4; what++) {
                notes("ofBuyer", buyer, what);
            }
        }
        for (int use = 0; use < 2; use++) {
            notes("law", use, 1, 0, 0, 0);
            notes("law", use, 20, 3, 7, 2);
            notes("law", use, 1, 2, 0, -1);
        }
        // In RICH the numbers that wait are just those due at STEP 3.
        notes("check", State.TOLD_STEP);
        notes("feed", 'n', 1);
        notes("text", 0);
        notes("law", 0, 20, 3, 7, 2);
        for (int step = 0; step < 10; step++) {
            notes("coins", step, 1 + 7 * step * step);
        }
        notes("set", 5, 0);
    }

    private void looksAtSheets() {
        // All buy each year, so that PURSE tells every STEP of a SHEET.
        read(0, "9999");
        ask("set", 3, 60);
        ask("set", 4, 0);
        for (int sheet = 0; sheet < 4; sheet++) {
            notes("by", sheet, 0);
            notes("by", sheet, 3);
            notes("move", sheet, 0, 0, 0, 0);
            notes("move", sheet, 0, 1, 0, 0);
            notes("put", sheet, 0, 256 + 3);
            notes("by", sheet, 0);
            notes("put", sheet, 0, 65536 + 3);
            notes("by", sheet, 0);
        }
        int[] places = {2, 3, 4, 5, 6, 7, 39};
        for (int sheet = 0; sheet < 4; sheet++) {
            for (int place : places) {
                notes("put", sheet, place, 1);
            }
        }
    }
}
