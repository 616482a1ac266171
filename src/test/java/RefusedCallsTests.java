import java.util.ArrayList;
import java.util.Arrays;
import java.util.List;

/**
 * Each ERROR of each act, from the first number that is refused on: with new,
 * empty, rich and full objects, and all but told() as it was afterwards.
 */
public final class RefusedCallsTests {
    private static final int BEYOND = Checks.BEYOND;
    private static final int NONE = Checks.NONE;
    private static final int STATE = Checks.STATE;
    private static final int FULL = Checks.FULL;
    private static final int KIND = Checks.KIND;
    private static final int BIG = Integer.MAX_VALUE;
    private static final int SMALL = Integer.MIN_VALUE;

    public static void main(String[] args) throws Exception {
        Sentence.runAll(RefusedCallsTests.class, 2, 38);
    }

    /**
     * Each argument in turn just below and just above what is let in, and far
     * off, the others being let in. limits: least and most of each argument.
     */
    private static void refusesAround(String name, long[] letIn, long[][] limits) {
        for (int i = 0; i < letIn.length; i++) {
            if (limits[i] != null) {
                long[] outside = {limits[i][0] - 1, limits[i][1] + 1, SMALL, BIG};
                for (long one : outside) {
                    long[] arguments = letIn.clone();
                    arguments[i] = one;
                    Sentence.refused(BEYOND, name, arguments);
                }
            }
        }
    }

    private static long[] of(long... numbers) {
        return numbers;
    }

    /** The least and the most of an argument. */
    private static long[] from(long least, long most) {
        return new long[] {least, most};
    }

    private static final long[] STEP = {0, 9};
    private static final long[] SHEET = {0, 3};
    private static final long[] ANY = null;

    /** BUYERS' numbers end where the BUYERS do: the first refused is another one in each State. */
    private static void refusesBuyers(String name, long... letIn) {
        for (State state : State.values()) {
            for (long buyer : of(-1, state.buyers(), 8, SMALL, BIG)) {
                long[] arguments = letIn.clone();
                arguments[0] = buyer;
                Sentence.refusedIn(state, BEYOND, name, arguments);
            }
        }
    }

    static void coins() {
        Sentence.says(2, "COINS of a STEP become v: what they were. BEYOND.");
        refusesAround("coins", of(0, 5), new long[][] {STEP, from(1, 9999)});
        refusesAround("coins", of(9, 5), new long[][] {ANY, from(1, 9999)});
        Sentence.refused(BEYOND, "coins", 10, 0);
    }

    static void set() {
        Sentence.says(3, "LAST (what 0), NAME (1), MAKES (2), KEPT (3), PURSE (4), PAINS (5) becomes v: what it was. BEYOND.");
        long[][] limits = {STEP, from(0, 12), from(0, 20), from(0, 60), from(-99999999, 99999999), from(0, 999)};
        for (int what = 0; what < 6; what++) {
            refusesAround("set", of(what, 5), new long[][] {ANY, limits[what]});
        }
        refusesAround("set", of(0, 0), new long[][] {from(0, 5), ANY});
    }

    static void buyer() {
        Sentence.says(4, "A BUYER: its number. BEYOND. FULL.");
        refusesAround("buyer", of(3, 50, 5), new long[][] {from(0, 6), from(0, 9999), from(1, 9)});
        Sentence.refusedIn(State.FULL, FULL, "buyer", 0, 0, 1);
        Sentence.refusedIn(State.FULL, FULL, "buyer", 6, 9999, 9);
    }

    static void ofBuyer() {
        Sentence.says(5, "Of a BUYER: 0 KIND, 1 WANTS, 2 MOST, 3 HAS. BEYOND.");
        refusesBuyers("ofBuyer", 0, 0);
        refusesBuyers("ofBuyer", 0, 3);
        refusesAround("ofBuyer", of(0, 0), new long[][] {ANY, from(0, 3)});
    }

    static void as() {
        Sentence.says(6, "A BUYER as one of a KIND: MOST. BEYOND. KIND: it isn't of that KIND, nor of one under it.");
        refusesBuyers("as", 0, 0);
        // BEYOND is asked ahead of KIND: number 0 isn't of KIND 6 either.
        refusesBuyers("as", 0, 6);
        refusesAround("as", of(0, 0), new long[][] {ANY, from(0, 6)});
        Sentence.refusedIn(State.EMPTY, KIND, "as", 0, 1);
        Sentence.refusedIn(State.RICH, KIND, "as", 0, 6);
        Sentence.refusedIn(State.RICH, KIND, "as", 1, 2);
        Sentence.refusedIn(State.RICH, KIND, "as", 6, 2);
        Sentence.refusedIn(State.FULL, KIND, "as", 7, 1);
    }

    static void has() {
        Sentence.says(7, "A BUYER HAS v (0 to 9999): what it had. BEYOND.");
        refusesBuyers("has", 0, 3);
        refusesAround("has", of(0, 0), new long[][] {ANY, from(0, 9999)});
    }

    static void buyers() {
        Sentence.says(8, "BEYOND: no such SHEET. NONE: it is missing.");
        refusesAround("buyers", of(0), new long[][] {SHEET});
        for (int sheet = 0; sheet < 4; sheet++) {
            Sentence.refusedIn(State.NEW, NONE, "buyers", sheet);
        }
        Sentence.refusedIn(State.RICH, NONE, "buyers", 3);
    }

    static void at() {
        Sentence.says(9, "what 0 WORTH, 1 DUE, 2 what it BUYS if so many (0 to 99, by any what) are left. BEYOND.");
        for (int what = 0; what < 3; what++) {
            refusesBuyers("at", 0, 0, what, 0);
            refusesAround("at", of(0, 0, what, 0), new long[][] {ANY, STEP, ANY, from(0, 99)});
        }
        refusesAround("at", of(0, 0, 0, 0), new long[][] {ANY, ANY, from(0, 2), ANY});
    }

    static void feed() {
        Sentence.says(10, "come to THE TAPE: how many there are. BEYOND. FULL.");
        refusesAround("feed", of('w', 1), new long[][] {ANY, from(1, 8)});
        for (int n = 1; n <= 8; n++) {
            Sentence.refusedIn(State.FULL, FULL, "feed", 'w', n);
        }
    }

    static void text() {
        Sentence.says(11, "BEYOND (THE TAPE stays).");
        refusesAround("text", of(0), new long[][] {from(0, 1)});
    }

    static void law() {
        Sentence.says(12, "What a USE gives with its NAMES in order as a, b, c, d. BEYOND.");
        refusesAround("law", of(0, 1, 2, 3, 4), new long[][] {from(0, 1), ANY, ANY, ANY, ANY});
    }

    static void year() {
        Sentence.says(13, "A YEAR: how many are sold. BEYOND: STEP, b. STATE: NOW would be above 199.");
        refusesAround("year", of(0, 0), new long[][] {STEP, from(0, 99)});
        Sentence.refusedIn(State.FULL, STATE, "year", 0, 0);
        Sentence.refusedIn(State.FULL, STATE, "year", 9, 99);
    }

    static void give() {
        Sentence.says(14, "One pot is GIVEN: what the BUYER HAS then. BEYOND. STATE: none is KEPT.");
        // In NEW and EMPTY none is KEPT: BEYOND is asked ahead of STATE.
        refusesBuyers("give", 0);
        Sentence.refusedIn(State.EMPTY, STATE, "give", 0);
    }

    static void life() {
        Sentence.says(15, "A LIFE of n (1 to 30) YEARS: how many are sold in all. BEYOND. STATE: NOW would be above 199.");
        refusesAround("life", of(1, 0), new long[][] {from(1, 30), STEP});
        Sentence.refusedIn(State.FULL, STATE, "life", 1, 0);
        Sentence.refusedIn(State.FULL, STATE, "life", 30, 9);
    }

    static void then() {
        Sentence.says(16, "AHEAD by n (0 to 40) YEARS at one STEP: what 0 PURSE, 1 NAME, 2 KEPT, 3 ENDS, 4 what all BUYERS HAVE. BEYOND.");
        refusesAround("then", of(0, 0, 0), new long[][] {from(0, 40), STEP, from(0, 4)});
    }

    static void by() {
        Sentence.says(17, "what as then(). BEYOND: SHEET, what. NONE: it is missing.");
        // In NEW all are missing: BEYOND is asked ahead of NONE.
        refusesAround("by", of(0, 0), new long[][] {SHEET, from(0, 4)});
        for (int sheet = 0; sheet < 4; sheet++) {
            Sentence.refusedIn(State.NEW, NONE, "by", sheet, 0);
        }
        Sentence.refusedIn(State.RICH, NONE, "by", 3, 4);
        Sentence.refusedIn(State.RICH, BEYOND, "by", 3, 5);
    }

    private static void refusesRows(String name) {
        refusesAround(name, of(1, 0), new long[][] {from(1, 3), ANY});
        for (int n = 1; n <= 3; n++) {
            refusesAround(name, of(n, 0), new long[][] {ANY, from(-1, n - 1)});
        }
        Sentence.refused(BEYOND, name, 0, -1);
        Sentence.refused(BEYOND, name, 4, 3);
    }

    static void best() {
        Sentence.says(18, "BEST by n: i -1 ENDS then, else the i-th STEP. BEYOND: also i below -1, or n and above.");
        refusesRows("best");
    }

    static void never() {
        Sentence.says(19, "NEVER by n, likewise.");
        refusesRows("never");
    }

    static void costs() {
        Sentence.says(20, "COSTS of never lowering by n. BEYOND.");
        refusesAround("costs", of(1), new long[][] {from(1, 3)});
    }

    static void raise() {
        Sentence.says(21, "RAISE by n (1, 2). BEYOND. NONE.");
        refusesAround("raise", of(1), new long[][] {from(1, 2)});
        // LAST is 9: no STEP is above it.
        for (int n = 1; n <= 2; n++) {
            Sentence.refusedIn(State.EMPTY, NONE, "raise", n);
            Sentence.refusedIn(State.FULL, NONE, "raise", n);
        }
    }

    static void back() {
        Sentence.says(22, "BACK by n (0 to 20) at a STEP. BEYOND.");
        refusesAround("back", of(0, 0), new long[][] {from(0, 20), STEP});
    }

    static void whom() {
        Sentence.says(23, "WHOM by n (0 to 40) YEARS at a STEP. BEYOND. STATE: none is KEPT. NONE: there are no BUYERS.");
        refusesAround("whom", of(0, 0), new long[][] {from(0, 40), STEP});
        // In NEW there are no BUYERS either: STATE is asked ahead of NONE.
        Sentence.refusedIn(State.NEW, STATE, "whom", 0, 0);
        Sentence.refusedIn(State.EMPTY, STATE, "whom", 40, 9);
    }

    static void more() {
        Sentence.says(24, "MORE by d with n (0 to 40) YEARS at a STEP. BEYOND.");
        refusesAround("more", of(0, 0, 0), new long[][] {from(-20, 20), from(0, 40), STEP});
    }

    static void rests() {
        Sentence.says(25, "RESTS at a STEP. BEYOND. NONE.");
        refusesAround("rests", of(0), new long[][] {STEP});
    }

    static void clear() {
        Sentence.says(26, "there is one on sale at least). NONE.");
        Sentence.refusedIn(State.NEW, NONE, "clear");
        Sentence.refusedIn(State.EMPTY, NONE, "clear");
    }

    static void seedIsNeverRefused() {
        Sentence.says(27, "z becomes v: what it was (any number).");
        for (State state : State.values()) {
            for (int v : new int[] {SMALL, BEYOND, -1, 0, 1, BIG}) {
                Asked once = state.made();
                Asked twice = state.made();
                once.ask("seed", v);
                twice.ask("seed", v);
                Sentence.due(twice.ask("seed", v), v);
                Sentence.alike(once, twice, 0);
            }
        }
    }

    static void voice() {
        Sentence.says(28, "A VOICE of a BUYER: any number. BEYOND.");
        refusesBuyers("voice", 0, 0, 0);
        refusesBuyers("voice", 0, 3, 5);
        refusesAround("voice", of(0, 0, 0), new long[][] {ANY, from(0, 3), ANY});
    }

    static void trace() {
        Sentence.says(29, "THE TRACE's i-th. NONE: there is none such.");
        for (int i : new int[] {-1, 14, 15, 39, 40, 41, SMALL, BIG}) {
            Sentence.refused(NONE, "trace", i);
        }
        Sentence.refusedIn(State.NEW, NONE, "trace", 0);
        Sentence.refusedIn(State.EMPTY, NONE, "trace", 1);
    }

    static void sheet() {
        Sentence.says(30, "(8, 16, 32; 0: it is missing, n doesn't matter): 1. BEYOND. STATE: n is below 0 (ahead of BEYOND of n).");
        refusesAround("sheet", of(0, 8, 1), new long[][] {SHEET, ANY, ANY});
        refusesAround("sheet", of(0, 0, 1), new long[][] {SHEET, ANY, ANY});
        for (int bits : new int[] {-32, -8, -1, 1, 4, 7, 9, 15, 17, 24, 31, 33, 64, SMALL, BIG}) {
            Sentence.refused(BEYOND, "sheet", 0, bits, 1);
            Sentence.refusedIn(State.RICH, BEYOND, "sheet", 2, bits, -1);
        }
        for (int bits = 8; bits <= 32; bits *= 2) {
            Sentence.refused(BEYOND, "sheet", 0, bits, 41);
            Sentence.refused(BEYOND, "sheet", 3, bits, BIG);
            Sentence.refused(STATE, "sheet", 0, bits, -1);
            Sentence.refused(STATE, "sheet", 3, bits, SMALL);
            Sentence.refused(BEYOND, "sheet", 4, bits, -1);
        }
    }

    static void put() {
        Sentence.says(31, "BEYOND: no such SHEET. NONE: it is missing. BEYOND: no such number.");
        refusesAround("put", of(0, 0, 1), new long[][] {SHEET, ANY, ANY});
        Sentence.refused(BEYOND, "put", 4, -1, 1);
        for (int i : new int[] {SMALL, -1, 0, 40, BIG}) {
            Sentence.refusedIn(State.NEW, NONE, "put", 0, i, 1);
            Sentence.refusedIn(State.RICH, NONE, "put", 3, i, 1);
            Sentence.refusedIn(State.EMPTY, BEYOND, "put", 0, i, 1);
        }
        for (int i : new int[] {SMALL, -1, 5, 40, BIG}) {
            Sentence.refusedIn(State.RICH, BEYOND, "put", 0, i, 1);
        }
        for (int i : new int[] {SMALL, -1, 40, 41, BIG}) {
            Sentence.refusedIn(State.FULL, BEYOND, "put", 3, i, 1);
        }
    }

    static void moveAsksSheetsFirst() {
        Sentence.says(32, "BEYOND: no such SHEET. NONE: one is missing. KIND: they are of unlike bits.");
        for (int none : new int[] {SMALL, -1, 4, BIG}) {
            Sentence.refused(BEYOND, "move", none, 0, 0, 0, 0);
            Sentence.refused(BEYOND, "move", 0, 0, none, 0, 0);
            // SHEET 3 is missing, n is below 0: no such SHEET is asked first.
            Sentence.refusedIn(State.RICH, BEYOND, "move", 3, 0, none, 0, -1);
            Sentence.refusedIn(State.RICH, BEYOND, "move", none, 0, 3, 0, -1);
        }
        Sentence.refusedIn(State.NEW, NONE, "move", 0, 0, 0, 0, 0);
        Sentence.refusedIn(State.NEW, NONE, "move", 0, -1, 1, -1, -1);
        Sentence.refusedIn(State.RICH, NONE, "move", 3, 0, 0, 0, 1);
        Sentence.refusedIn(State.RICH, NONE, "move", 0, 0, 3, 0, 1);
        Sentence.refusedIn(State.RICH, NONE, "move", 2, 0, 3, 0, -1);
        for (int from = 0; from < 3; from++) {
            int to = (from + 1) % 3;
            Sentence.refusedIn(State.RICH, KIND, "move", from, 0, to, 0, 1);
            Sentence.refusedIn(State.RICH, KIND, "move", to, 0, from, 0, 1);
            Sentence.refusedIn(State.RICH, KIND, "move", from, -1, to, 99, -1);
            Sentence.refusedIn(State.EMPTY, KIND, "move", from, 0, to, 0, 0);
        }
    }

    static void moveAsksNumbersLast() {
        Sentence.says(32, "BEYOND: n, i, or j is below 0, or they don't stand there (n 0, too).");
        // SHEETS 0 and 3 are of 8 bits: 40 numbers each in FULL, none in EMPTY.
        long[][] full = {
            {-1, 0, 1}, {0, -1, 1}, {0, 0, -1}, {-1, 0, 0}, {0, -1, 0}, {40, 0, 1}, {0, 40, 1}, {39, 0, 2}, {0, 39, 2}, {41, 0, 0},
            {0, 41, 0}, {0, 0, 41}, {1, 0, 40}, {0, 1, 40}, {BIG, 0, 1}, {0, BIG, 1}, {0, 0, BIG}, {1, 1, BIG}, {BIG, BIG, BIG},
            {BIG, 0, 0}, {0, BIG, 0}, {SMALL, 0, 1}, {0, SMALL, 1}, {0, 0, SMALL}, {SMALL, SMALL, SMALL}, {1, 0, SMALL}, {-1, -1, -1},
        };
        for (long[] one : full) {
            Sentence.refusedIn(State.FULL, BEYOND, "move", 0, one[0], 3, one[1], one[2]);
            Sentence.refusedIn(State.FULL, BEYOND, "move", 1, one[0], 1, one[1], one[2]);
        }
        for (long[] one : new long[][] {{0, 0, 1}, {1, 0, 0}, {0, 1, 0}, {-1, 0, 0}, {0, -1, 0}, {0, 0, -1}}) {
            Sentence.refusedIn(State.EMPTY, BEYOND, "move", 0, one[0], 3, one[1], one[2]);
        }
    }

    static void restore() {
        Sentence.says(34, "All is as the IMAGE has it, which stays: NOW. NONE: there is none.");
        Sentence.refusedIn(State.NEW, NONE, "restore");
    }

    static void tell() {
        Sentence.says(35, "One more number waits: how many. FULL: 20 wait.");
        for (int v : new int[] {SMALL, -1, 0, 1, BIG}) {
            Sentence.refusedIn(State.FULL, FULL, "tell", v);
        }
    }

    /** The one ERROR that changes more: as a check() that is let in, none wait then. */
    static void check() {
        Sentence.says(36, "BEYOND (none wait then, too).");
        for (State state : State.values()) {
            for (int step : new int[] {-1, 10, SMALL, BIG}) {
                Asked letIn = state.made();
                Asked refused = state.made();
                letIn.ask("check", 0);
                Sentence.due(refused.ask("check", step), BEYOND);
                Sentence.due(refused.ask("count", 8), 0);
                letIn.ask("count", 8);
                Sentence.alike(letIn, refused, 1);
            }
        }
    }

    static void count() {
        Sentence.says(37, "9 BODIES in THE TRACE, 10 z (any number). BEYOND.");
        refusesAround("count", of(0), new long[][] {from(0, 10)});
    }

    static void told() {
        Sentence.says(38, "BEYOND: another k (counted, too).");
        refusesAround("told", of(1), new long[][] {from(1, 5)});
    }

    /** A FAULT is no ERROR: as if THE TAPE had been empty, and none is told. */
    static void faults() {
        Sentence.says(11, "-10 less the FAULT (no ERROR; the one ahead stays; THE TAPE is empty, too).");
        for (int use = 0; use < 2; use++) {
            Asked empty = State.RICH.made();
            Asked spoilt = State.RICH.made();
            Sentence.due(empty.read(0, "w+n*4-h"), 1);
            Sentence.due(spoilt.read(0, "w+n*4-h"), 1);
            Sentence.due(spoilt.read(use, "1+)"), -12);
            Sentence.due(spoilt.read(use, "(1+"), -13);
            Sentence.due(spoilt.ask("text", use), -10);
            Sentence.alike(empty, spoilt, 0);
        }
    }

    static void looksAlone() {
        Sentence.says(16, "AHEAD by a row of STEPS: as if YEARS at these went by, nothing being kept back (beyond YEAR 199, too).");
        String[] names = {
            "ofBuyer", "as", "at", "law", "then", "by", "best", "best", "never", "costs", "back", "whom", "more", "rests", "trace",
            "count", "told",
        };
        long[][] arguments = {
            {0, 3}, {2, 0}, {1, 9, 2, 99}, {1, 1, 2, 3, 4}, {40, 9, 4}, {0, 3}, {2, 0}, {3, -1}, {3, 2}, {3}, {20, 3}, {40, 3},
            {-20, 40, 3}, {3}, {0}, {10}, {1},
        };
        for (int i = 0; i < names.length; i++) {
            Sentence.looksIn(State.RICH, names[i], arguments[i]);
            Sentence.looksIn(State.FULL, names[i], arguments[i]);
        }
        // In FULL both answer NONE.
        Sentence.looksIn(State.RICH, "raise", 2);
        Sentence.looksIn(State.RICH, "clear");
    }

    /** What these tests rest on: that a change of any part is seen. */
    static void changesAreSeen() {
        Sentence.says(33, "All (but SHEETS, THE TRACE, what told() tells, and how often this was done) is kept as an IMAGE");
        String[] names = {
            "coins", "coins", "set", "set", "set", "set", "set", "set", "buyer", "has", "has", "buyers", "feed", "text", "text", "year",
            "give", "life", "seed", "voice", "sheet", "sheet", "sheet", "sheet", "put", "put", "put", "put", "move", "image", "restore",
            "tell", "check",
        };
        long[][] arguments = {
            {0, 11}, {9, 100}, {0, 3}, {1, 8}, {2, 9}, {3, 12}, {4, -501}, {5, 20}, {0, 1, 1}, {0, 9}, {6, 3}, {1}, {'n', 1}, {0}, {1},
            {3, 1}, {0}, {1, 3}, {1}, {6, 2, 5}, {0, 16, 5}, {0, 8, 4}, {2, 0, 0}, {3, 8, 0}, {0, 4, 8}, {1, 6, 4}, {2, 0, 5}, {1, 0, 9},
            {0, 0, 0, 1, 4}, {}, {}, {0}, {9},
        };
        for (int i = 0; i < names.length; i++) {
            Asked changed = State.RICH.made();
            changed.ask(names[i], arguments[i]);
            List<String> is = new ArrayList<>(changed.everything());
            String call = names[i] + Arrays.toString(arguments[i]);
            Checks.holds(call + " is seen", !is.equals(State.RICH.made().everything()));
        }
        Asked rich = State.RICH.made();
        Sentence.due(rich.ask("check", State.TOLD_STEP), 0);
        Asked full = State.FULL.made();
        Sentence.due(full.ask("count", 0), 199);
        Sentence.due(full.ask("count", 7), 50);
        Sentence.due(full.ask("check", State.TOLD_STEP), 9);
    }
}
