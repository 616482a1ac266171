import java.util.ArrayList;
import java.util.Arrays;
import java.util.List;
import java.util.Random;

/** Runs of drawn calls, each answered by NinePots and by the plain model of the document. */
public final class AgainstModelTests {
    private static final int RUNS = 1500;
    private static final int CALLS = 120;

    private NinePots pots;
    private Model model;
    private final List<String> run = new ArrayList<>();
    private final Random draws;
    private boolean agreed = true;

    private AgainstModelTests(long seed) {
        draws = new Random(seed);
    }

    public static void main(String[] args) {
        int runs = args.length > 0 ? Integer.parseInt(args[0]) : RUNS;
        int from = args.length > 1 ? Integer.parseInt(args[1]) : 0;
        for (int seed = from; seed < from + runs && Checks.wrong() < 3; seed++) {
            new AgainstModelTests(seed).goes();
        }
        Checks.end();
    }

    private void goes() {
        pots = new NinePots();
        model = new Model();
        for (int i = draws.nextInt(9); i > 0; i--) {
            asks("buyer", Calls.argument(draws, 'k'), Calls.argument(draws, 'w'), Calls.argument(draws, 'm'));
        }
        for (int i = 0; i < CALLS && agreed; i++) {
            int sort = draws.nextInt(30);
            if (sort == 0) {
                readsText();
            } else if (sort == 1) {
                fillsSheet();
            } else if (sort == 2) {
                tellsAndChecks();
            } else {
                asksOne();
            }
        }
        for (int i = 0; i <= 10 && agreed; i++) {
            asks("count", i);
        }
        for (int i = 1; i <= 5 && agreed; i++) {
            asks("told", i);
        }
    }

    private void asksOne() {
        String[] parts = Calls.FACE[draws.nextInt(Calls.FACE.length)].split(" ", -1);
        String sorts = parts[0].equals("then") ? "As5" : parts[1];
        long[] arguments = new long[sorts.length()];
        for (int k = 0; k < arguments.length; k++) {
            arguments[k] = Calls.argument(draws, sorts.charAt(k));
        }
        if (parts[0].equals("best") || parts[0].equals("never")) {
            arguments[1] = draws.nextInt(5) - 1;
        }
        asks(parts[0], arguments);
    }

    private void readsText() {
        int use = draws.nextInt(2);
        String text = Calls.text(draws, use);
        for (int at = 0; at < text.length() && agreed; at += 8) {
            int n = Math.min(8, text.length() - at);
            asks("feed", Checks.word(text, at, n), n);
        }
        asks("text", use);
        for (int i = 0; i < 3 && agreed; i++) {
            asks("law", use, Calls.argument(draws, 'i'), Calls.argument(draws, 'i'), Calls.argument(draws, 'i'),
                Calls.argument(draws, 'i'));
        }
    }

    private void fillsSheet() {
        long sheet = draws.nextInt(4);
        int n = draws.nextInt(30);
        asks("sheet", sheet, 16 * (1 + draws.nextInt(2)), n);
        boolean steps = draws.nextBoolean();
        for (int i = 0; i < n && agreed; i++) {
            asks("put", sheet, i, Calls.argument(draws, steps ? 's' : "kwm".charAt(i % 3)));
        }
        asks(steps ? "by" : "buyers", steps ? new long[] {sheet, draws.nextInt(5)} : new long[] {sheet});
    }

    /** What each would buy, as at() tells it, so that check() is at times right. */
    private void tellsAndChecks() {
        int step = draws.nextInt(10);
        int left = pots.count(4) + pots.count(5);
        int buyers = pots.count(1) + draws.nextInt(3) / 2;
        for (int i = 0; i < buyers && agreed; i++) {
            int buys = i < pots.count(1) ? pots.at(i, step, 2, left) : 0;
            left -= buys;
            asks("tell", draws.nextInt(20) == 0 ? buys + 1 : buys);
        }
        asks("check", step);
    }

    private void asks(String name, long... arguments) {
        if (!agreed) {
            return;
        }
        String call = name + Arrays.toString(arguments);
        run.add(call);
        long want = model.call(name, arguments);
        long got;
        try {
            got = Calls.make(pots, name, arguments);
        } catch (RuntimeException thrown) {
            Checks.holds(String.join("\n", run) + "\nthrew " + thrown + ": that nothing is thrown", false);
            agreed = false;
            return;
        }
        agreed = got == want;
        Checks.due(agreed ? call : String.join("\n", run), got, want);
    }
}
