/** Promises 27 to 38 at the edges that the document names: draws, voices, sheets, images, what is told. */
public final class TellingEdgesTests {
    private static final int BEYOND = Checks.BEYOND;
    private static final int NONE = Checks.NONE;
    private static final int STATE = Checks.STATE;
    private static final int FULL = Checks.FULL;
    private static final int KIND = Checks.KIND;
    private static final int BIG = Integer.MAX_VALUE;
    private static final int SMALL = Integer.MIN_VALUE;

    public static void main(String[] args) throws Exception {
        Sentence.runAll(TellingEdgesTests.class, 27, 38);
    }

    private static void says(int promise, String words) {
        Sentence.says(promise, words);
    }

    private static void due(long got, long want) {
        Sentence.due(got, want);
    }

    // ---- promise 27

    static void seedOfAnyNumber() {
        says(27, "z becomes v: what it was (any number).");
        NinePots x = new NinePots();
        int was = 1;
        for (int v : new int[] {SMALL, BIG, 0, -1, BEYOND, KIND, BEYOND + 1}) {
            due(x.seed(v), was);
            due(x.count(10), v);
            was = v;
        }
        // Answers that look like ERRORS are none.
        for (int k = 1; k <= 5; k++) {
            due(x.told(k), 0);
        }
    }

    // ---- promise 28

    private static NinePots oneOfEach() {
        NinePots x = new NinePots();
        for (int kind = 0; kind < 7; kind++) {
            x.buyer(kind, 0, 1 + kind);
        }
        return x;
    }

    static void voicesGoRound() {
        says(28, "VOICES of a BUYER, with a number x (ints that go round)");
        NinePots x = oneOfEach();
        // Wants: x and the number, 3 times that by a DEALER; a FRIEND first adds 1.
        due(x.voice(1, 0, BIG), SMALL);
        due(x.voice(2, 0, BIG), (int) (3L * (BIG + 2L)));
        due(x.voice(4, 0, BIG), SMALL + 4);
        due(x.voice(4, 0, BIG - 4), SMALL);
        // Buys: twice that.
        due(x.voice(0, 1, BIG), -2);
        due(x.voice(0, 1, SMALL), 0);
        due(x.voice(0, 1, 1 << 30), SMALL);
        // Keeps: x less MOST; the other way round by a KEEPER.
        due(x.voice(0, 2, SMALL), BIG);
        due(x.voice(3, 2, SMALL + 4), SMALL);
        due(x.voice(6, 2, SMALL), SMALL);
        due(x.voice(0, 3, SMALL), 0 ^ BIG);
        due(x.told(1), 0);
    }

    static void voicesOfTheNextKindAbove() {
        says(28, "wants(..) is the BODY of its KIND, or of the next KIND above that has one; super.wants(..) that from the KIND above the BODY's on.");
        // Of 5, by KINDS 0 to 6, whose numbers are the same, and MOST is 1 more.
        int[][] answers = {
            {5, 10, 4, 14}, {6, 13, 3, 14}, {21, 44, 2, 46}, {8, 16, -1, -17}, {10, 20, 0, 13}, {10, 17, -1, -18}, {11, 21, 5, 5},
        };
        NinePots x = oneOfEach();
        for (int kind = 0; kind < 7; kind++) {
            for (int act = 0; act < 4; act++) {
                due(x.voice(kind, act, 5), answers[kind][act]);
            }
        }
    }

    static void voicesThatLookLikeErrors() {
        says(28, "A VOICE of a BUYER: any number. BEYOND.");
        NinePots x = oneOfEach();
        for (int k = 1; k <= 5; k++) {
            due(x.voice(0, 0, -1000000000 - k), -1000000000 - k);
        }
        for (int k = 1; k <= 5; k++) {
            due(x.told(k), 0);
        }
    }

    static void voicesOfFourActs() {
        says(28, "0 wants, 1 buys, 2 keeps, 3 tells.");
        NinePots x = oneOfEach();
        due(x.voice(0, -1, 5), BEYOND);
        due(x.voice(0, 0, 5), 5);
        due(x.voice(0, 1, 5), 10);
        due(x.voice(0, 2, 5), 4);
        due(x.voice(0, 3, 5), 10 ^ 4);
        due(x.voice(0, 4, 5), BEYOND);
        due(x.voice(6, 0, 5), 11);
        due(x.voice(7, 0, 5), BEYOND);
        due(x.voice(-1, 0, 5), BEYOND);
        x.buyer(0, 0, 9);
        due(x.voice(7, 0, 5), 12);
        due(x.voice(8, 0, 5), BEYOND);
        due(new NinePots().voice(0, 0, 5), BEYOND);
    }

    // ---- promise 29

    static void traceFromFirstToLast() {
        says(29, "THE TRACE's i-th. NONE: there is none such.");
        NinePots x = oneOfEach();
        due(x.trace(0), NONE);
        due(x.trace(-1), NONE);
        x.voice(0, 0, 1);
        due(x.trace(0), 10);
        due(x.trace(1), NONE);
        // The longest that there is.
        x.voice(6, 3, 1);
        int[] bodies = {71, 20, 11, 10, 70, 12, 13, 20, 11, 10, 70, 12, 70, 12};
        for (int i = 0; i < bodies.length; i++) {
            due(x.trace(i), bodies[i]);
        }
        due(x.count(9), 14);
        due(x.trace(14), NONE);
        due(x.trace(39), NONE);
        due(x.trace(40), NONE);
        due(x.trace(-1), NONE);
        due(x.trace(BIG), NONE);
        due(x.trace(SMALL), NONE);
        // A shorter one leaves nothing of it.
        x.voice(2, 0, 1);
        due(x.count(9), 2);
        due(x.trace(0), 30);
        due(x.trace(1), 10);
        due(x.trace(2), NONE);
    }

    static void traceOfTheLatestVoice() {
        says(29, "THE TRACE: the numbers of BODIES of the latest voice(), as they began (what stands left is worked out first), the first 40.");
        NinePots x = oneOfEach();
        x.voice(4, 3, 1);
        int[] bodies = {51, 13, 11, 50, 10, 40, 12, 50, 10};
        for (int again = 0; again < 2; again++) {
            for (int i = 0; i < bodies.length; i++) {
                due(x.trace(i), bodies[i]);
            }
            due(x.count(9), 9);
            // A refused one is no voice().
            x.voice(7, 0, 0);
            x.voice(0, 4, 0);
        }
    }

    // ---- promise 30

    /** How many numbers a SHEET has, asked by put(), which leaves them 0. */
    private static int length(NinePots x, int sheet) {
        int n = 0;
        while (x.put(sheet, n, 0) == 1) {
            n++;
        }
        return n;
    }

    static void sheetOfNoneToForty() {
        says(30, "SHEETS 0 .. 3 are rows of 8, 16, 32 bits (with a sign), at most 40 numbers, or missing (as at first).");
        for (int sheet = 0; sheet < 4; sheet++) {
            NinePots x = new NinePots();
            due(x.put(sheet, 0, 0), NONE);
            for (int n : new int[] {0, 1, 39, 40}) {
                due(x.sheet(sheet, 8 << sheet % 3, n), 1);
                due(length(x, sheet), n);
            }
            due(x.sheet(sheet, 8, 41), BEYOND);
            due(x.sheet(sheet, 8, -1), STATE);
            due(length(x, sheet), 40);
        }
        NinePots y = new NinePots();
        due(y.sheet(-1, 8, 1), BEYOND);
        due(y.sheet(4, 8, 1), BEYOND);
    }

    static void sheetOfNoughts() {
        says(30, "A SHEET has n numbers, all 0, of so many bits");
        // One pot is sold each year: PURSE tells the sum of the STEPS' COINS.
        NinePots x = new NinePots();
        Checks.read(x, 0, "9999");
        x.buyer(0, 0, 1);
        for (int bits = 8; bits <= 32; bits *= 2) {
            x.sheet(0, bits, 40);
            for (int i = 0; i < 40; i++) {
                x.put(0, i, 9);
            }
            due(x.by(0, 0), 4000);
            due(x.sheet(0, bits, 40), 1);
            due(x.by(0, 0), 400);
            // Shorter in between: what was ahead isn't there.
            x.put(0, 39, 9);
            x.sheet(0, bits, 1);
            due(x.by(0, 0), 10);
            x.sheet(0, bits, 40);
            due(x.by(0, 0), 400);
            // Missing in between, too.
            x.put(0, 39, 9);
            x.put(0, 0, 9);
            x.sheet(0, 0, 0);
            x.sheet(0, bits, 40);
            due(x.by(0, 0), 400);
        }
    }

    static void sheetThatIsMissing() {
        says(30, "0: it is missing, n doesn't matter): 1.");
        NinePots x = new NinePots();
        for (int n : new int[] {SMALL, -1, 0, 1, 40, 41, BIG}) {
            x.sheet(1, 16, 3);
            due(x.put(1, 2, 1), 1);
            due(x.sheet(1, 0, n), 1);
            due(x.put(1, 0, 1), NONE);
            due(x.sheet(1, 0, n), 1);
        }
        due(x.sheet(4, 0, 0), BEYOND);
        due(x.sheet(-1, 0, 0), BEYOND);
        due(x.told(3), 0);
    }

    static void sheetStateAheadOfBeyondOfN() {
        says(30, "BEYOND. STATE: n is below 0 (ahead of BEYOND of n).");
        NinePots x = new NinePots();
        due(x.sheet(0, 8, -1), STATE);
        due(x.sheet(0, 8, SMALL), STATE);
        due(x.sheet(0, 8, 41), BEYOND);
        due(x.sheet(0, 8, BIG), BEYOND);
        due(x.sheet(0, 7, -1), BEYOND);
        due(x.sheet(0, 64, -1), BEYOND);
        due(x.sheet(4, 8, -1), BEYOND);
        due(x.told(3), 2);
        due(x.told(1), 5);
    }

    // ---- promise 31

    /** A number put to a SHEET, read as the WANTS of a BUYER; -1 if no BUYER comes by it. */
    private static int wanted(int bits, int v) {
        NinePots x = new NinePots();
        x.sheet(0, bits, 3);
        due(x.put(0, 1, v), 1);
        x.put(0, 2, 1);
        return x.buyers(0) == 1 ? x.ofBuyer(0, 1) : -1;
    }

    static void putLowestBits() {
        says(31, "Number i of a SHEET becomes v (its lowest bits): 1.");
        int[] v = {0, 127, 128, 255, 256, 256 + 127, -1, -128, -256, -256 + 5, 9999, 32768, 65535, 65536, 65536 + 9999, BIG, SMALL, SMALL + 7};
        int[] of8 = {0, 127, -1, -1, 0, 127, -1, -1, 0, 5, 15, 0, -1, 0, 15, -1, 0, 7};
        int[] of16 = {0, 127, 128, 255, 256, 383, -1, -1, -1, -1, 9999, -1, -1, 0, 9999, -1, 0, 7};
        int[] of32 = {0, 127, 128, 255, 256, 383, -1, -1, -1, -1, 9999, -1, -1, -1, -1, -1, -1, -1};
        for (int i = 0; i < v.length; i++) {
            due(wanted(8, v[i]), of8[i]);
            due(wanted(16, v[i]), of16[i]);
            due(wanted(32, v[i]), of32[i]);
        }
    }

    static void putFromFirstToLast() {
        says(31, "NONE: it is missing. BEYOND: no such number.");
        NinePots x = new NinePots();
        for (int n : new int[] {0, 1, 40}) {
            x.sheet(2, 32, n);
            due(x.put(2, -1, 9), BEYOND);
            due(x.put(2, n, 9), BEYOND);
            due(x.put(2, SMALL, 9), BEYOND);
            due(x.put(2, BIG, 9), BEYOND);
            if (n > 0) {
                due(x.put(2, 0, 9), 1);
                due(x.put(2, n - 1, 9), 1);
            }
        }
        due(x.put(0, -1, 9), NONE);
        due(x.put(-1, -1, 9), BEYOND);
        due(x.put(4, 0, 9), BEYOND);
    }

    static void putOneNumberAlone() {
        says(31, "Number i of a SHEET becomes v (its lowest bits): 1.");
        // PURSE tells the sum of the STEPS' COINS: one pot is sold each year.
        for (int i = 0; i < 40; i++) {
            NinePots x = new NinePots();
            Checks.read(x, 0, "9999");
            x.buyer(0, 0, 1);
            x.sheet(0, 8, 40);
            x.sheet(1, 8, 40);
            x.put(0, i, 9);
            due(x.by(0, 0), 39 * 10 + 100);
            due(x.by(1, 0), 40 * 10);
            x.put(0, i, 10);
            due(x.by(0, 0), 10 * i);
        }
    }

    // ---- promise 32

    /** A SHEET of the digits of a text, which are STEPS. */
    private static void fill(NinePots x, int sheet, int bits, String digits) {
        x.sheet(sheet, bits, digits.length());
        for (int i = 0; i < digits.length(); i++) {
            x.put(sheet, i, digits.charAt(i) - '0');
        }
    }

    /** Whether a SHEET's STEPS are those, by their PURSE: COINS that stand for places can't do it, so one by one. */
    private static void holds(NinePots x, int sheet, int bits, String digits) {
        for (int i = 0; i < digits.length(); i++) {
            x.sheet(3, bits, 1);
            x.move(sheet, i, 3, 0, 1);
            // KEPT is 9 then, without BUYERS.
            due(x.by(3, 3), 45 * (digits.charAt(i) - '0' + 1));
        }
        x.sheet(3, 0, 0);
    }

    static void moveAsTheyAllWere() {
        says(32, "from number i on, come to another one (or the same), from its number j on, as they all were: n.");
        for (int bits = 8; bits <= 32; bits *= 2) {
            NinePots x = new NinePots();
            fill(x, 0, bits, "12345678");
            due(x.move(0, 0, 0, 1, 7), 7);
            holds(x, 0, bits, "11234567");
            due(x.move(0, 1, 0, 0, 7), 7);
            holds(x, 0, bits, "12345677");
            due(x.move(0, 0, 0, 0, 8), 8);
            holds(x, 0, bits, "12345677");
            due(x.move(0, 0, 0, 3, 5), 5);
            holds(x, 0, bits, "12312345");
            fill(x, 1, bits, "000");
            due(x.move(0, 5, 1, 0, 3), 3);
            holds(x, 1, bits, "345");
            due(x.move(1, 2, 0, 7, 1), 1);
            due(x.move(1, 0, 0, 0, 1), 1);
            holds(x, 0, bits, "32312345");
            holds(x, 1, bits, "345");
        }
    }

    static void moveAllForty() {
        says(32, "n numbers of a SHEET, from number i on, come to another one (or the same)");
        NinePots x = new NinePots();
        x.sheet(0, 16, 40);
        x.sheet(1, 16, 40);
        for (int i = 0; i < 40; i++) {
            x.put(0, i, 9);
        }
        due(x.move(0, 0, 1, 0, 41), BEYOND);
        due(x.move(0, 1, 1, 0, 40), BEYOND);
        due(x.move(0, 0, 1, 1, 40), BEYOND);
        due(x.by(1, 3), 300);
        due(x.move(0, 0, 1, 0, 40), 40);
        due(x.by(1, 3), 3000);
        due(x.by(0, 3), 3000);
    }

    static void moveNone() {
        says(32, "BEYOND: n, i, or j is below 0, or they don't stand there (n 0, too).");
        NinePots x = new NinePots();
        fill(x, 0, 8, "123");
        fill(x, 1, 8, "45");
        for (int i = 0; i <= 3; i++) {
            for (int j = 0; j <= 2; j++) {
                due(x.move(0, i, 1, j, 0), 0);
            }
            due(x.move(0, i, 1, 3, 0), BEYOND);
            due(x.move(0, i, 1, -1, 0), BEYOND);
        }
        due(x.move(0, 4, 1, 0, 0), BEYOND);
        due(x.move(0, -1, 1, 0, 0), BEYOND);
        due(x.move(0, 0, 1, 0, -1), BEYOND);
        holds(x, 0, 8, "123");
        holds(x, 1, 8, "45");
        // SHEETS without numbers: none can be moved from their one end.
        x.sheet(0, 8, 0);
        x.sheet(1, 8, 0);
        due(x.move(0, 0, 1, 0, 0), 0);
        due(x.move(0, 0, 0, 0, 0), 0);
        due(x.move(0, 1, 1, 0, 0), BEYOND);
        due(x.move(0, 0, 1, 1, 0), BEYOND);
        due(x.move(0, 0, 1, 0, 1), BEYOND);
    }

    static void moveIsAskedInOrder() {
        says(32, "BEYOND: no such SHEET. NONE: one is missing. KIND: they are of unlike bits. BEYOND: n, i, or j is below 0");
        NinePots x = new NinePots();
        due(x.move(4, 0, 0, 0, 0), BEYOND);
        due(x.move(0, 0, 4, 0, 0), BEYOND);
        due(x.move(0, 0, 1, 0, -1), NONE);
        x.sheet(0, 8, 2);
        due(x.move(0, 0, 1, 0, -1), NONE);
        due(x.move(1, 0, 0, 0, -1), NONE);
        due(x.move(0, 0, -1, 0, -1), BEYOND);
        x.sheet(1, 16, 2);
        due(x.move(0, 0, 1, 0, -1), KIND);
        due(x.move(1, 9, 0, 9, 9), KIND);
        due(x.move(1, 0, 2, 0, 0), NONE);
        x.sheet(1, 8, 2);
        due(x.move(0, 0, 1, 0, -1), BEYOND);
        due(x.move(0, 0, 1, 0, 2), 2);
        due(x.told(1), 4);
        due(x.told(2), 4);
        due(x.told(5), 2);
    }

    // ---- promise 33

    static void imageOf512Calls() {
        says(33, "An object is used for at most 512 calls after it has been made");
        NinePots x = new NinePots();
        for (int calls = 1; calls <= 512; calls++) {
            due(x.image(), calls);
        }
    }

    static void imageInPlaceOfOneAhead() {
        says(33, "is kept as an IMAGE, in place of one ahead: how often that was done.");
        NinePots x = new NinePots();
        due(x.image(), 1);
        x.buyer(6, 5, 4);
        x.set(1, 9);
        due(x.image(), 2);
        x.set(1, 3);
        due(x.restore(), 0);
        due(x.count(3), 9);
        due(x.count(1), 1);
        due(x.image(), 3);
    }

    // ---- promise 34

    static void restoreWithoutAnImage() {
        says(34, "NONE: there is none.");
        NinePots x = new NinePots();
        x.set(1, 3);
        due(x.restore(), NONE);
        due(x.count(3), 3);
        due(x.image(), 1);
        due(x.restore(), 0);
        due(x.told(2), 1);
    }

    static void restoreToBothEnds() {
        says(34, "All is as the IMAGE has it, which stays: NOW.");
        // A full object as new again, and a new one full: the IMAGE of RICH, EMPTY and FULL, over and over.
        for (State state : State.values()) {
            Asked x = state.made();
            x.ask("image");
            long[] counts = counts(x);
            spoils(x);
            due(x.ask("restore"), counts[0]);
            compare(x, counts);
            spoils(x);
            due(x.ask("restore"), counts[0]);
            compare(x, counts);
        }
    }

    private static long[] counts(Asked x) {
        long[] counts = new long[11];
        for (int what = 0; what <= 10; what++) {
            counts[what] = x.ask("count", what);
        }
        return counts;
    }

    private static void spoils(Asked x) {
        x.ask("year", 0, 0);
        x.ask("buyer", 0, 1, 1);
        for (int what = 0; what < 6; what++) {
            x.ask("set", what, 3);
        }
        for (int step = 0; step < 10; step++) {
            x.ask("coins", step, 77);
        }
        x.ask("has", 0, 77);
        x.ask("text", 0);
        x.read(0, "7");
        x.read(1, "2");
        x.feed("))))))))");
        x.ask("check", 0);
        x.ask("tell", 77);
        x.ask("seed", 5);
    }

    private static void compare(Asked x, long[] counts) {
        for (int what = 0; what <= 10; what++) {
            due(x.ask("count", what), counts[what]);
        }
    }

    static void restoreAllAsItWas() {
        says(34, "All is as the IMAGE has it, which stays: NOW.");
        for (State state : State.values()) {
            Asked left = state.made();
            Asked restored = state.made();
            left.ask("image");
            restored.ask("image");
            spoils(left);
            left.ask("restore");
            left.ask("restore");
            // The one ERROR, or two, that spoiling may answer are told by both.
            Asked told = state.made();
            spoils(told);
            for (int k = 1; k <= 5; k++) {
                due(left.ask("told", k), told.ask("told", k));
            }
            due(left.everything().equals(restored.everything()) ? 1 : 0, 1);
        }
    }

    static void restoreLeavesSheetsTraceAndTold() {
        says(34, "All (but SHEETS, THE TRACE, what told() tells, and how often this was done)");
        NinePots x = new NinePots();
        x.buyer(0, 1, 1);
        x.image();
        x.sheet(0, 8, 3);
        x.put(0, 2, 7);
        x.voice(0, 3, 1);
        x.coins(10, 1);
        x.image();
        due(x.restore(), 0);
        due(x.put(0, 2, 7), 1);
        due(x.count(9), 4);
        due(x.trace(0), 13);
        due(x.told(1), 1);
        due(x.image(), 3);
        x.sheet(0, 0, 0);
        x.restore();
        due(x.put(0, 2, 7), NONE);
        x.voice(0, 0, 1);
        x.restore();
        due(x.count(9), 1);
    }

    static void restoreTakesTextsAway() {
        says(34, "All is as the IMAGE has it, which stays: NOW.");
        NinePots x = new NinePots();
        x.image();
        Checks.read(x, 0, "7");
        Checks.read(x, 1, "2");
        due(x.law(0, 1, 1, 1, 1), 7);
        x.restore();
        // Without a TEXT again.
        due(x.law(0, 1, 1, 1, 1), 5);
        due(x.law(1, 0, 4, 0, 0), -1);
        // A BUYER of the same number as one that is gone HAS nothing.
        x.buyer(0, 1, 1);
        x.has(0, 9999);
        x.restore();
        due(x.ofBuyer(0, 3), BEYOND);
        due(x.buyer(0, 1, 1), 0);
        due(x.ofBuyer(0, 3), 0);
    }

    static void restoreTakesBuyersAway() {
        says(34, "All is as the IMAGE has it, which stays: NOW.");
        NinePots x = new NinePots();
        x.buyer(0, 20, 1);
        x.image();
        for (int i = 1; i < 8; i++) {
            x.buyer(0, 20, 1);
        }
        due(x.buyer(0, 20, 1), FULL);
        due(x.year(0, 0), 8);
        due(x.restore(), 0);
        due(x.count(1), 1);
        due(x.ofBuyer(1, 0), BEYOND);
        // Those that are gone neither buy nor have anything.
        due(x.year(0, 0), 1);
        due(x.then(0, 0, 4), 1);
        due(x.buyer(6, 20, 9), 1);
    }

    static void restoreToAFullTape() {
        says(34, "All is as the IMAGE has it, which stays: NOW.");
        NinePots x = new NinePots();
        Checks.feed(x, "w+".repeat(24) + "10");
        x.image();
        due(x.text(0), 1);
        due(x.law(0, 1, 0, 0, 0), 34);
        Checks.feed(x, "n*".repeat(25));
        due(x.restore(), 0);
        due(x.feed('1', 1), FULL);
        due(x.law(0, 1, 0, 0, 0), 1);
        due(x.text(0), 1);
        due(x.law(0, 1, 0, 0, 0), 34);
    }

    // ---- promise 35

    static void tellUpToTwenty() {
        says(35, "One more number waits: how many. FULL: 20 wait.");
        NinePots x = new NinePots();
        for (int round = 0; round < 2; round++) {
            for (int i = 1; i <= 20; i++) {
                due(x.tell(i % 3 == 0 ? SMALL : i % 3 == 1 ? BIG : BEYOND), i);
                due(x.count(8), i);
            }
            due(x.tell(0), FULL);
            due(x.count(8), 20);
            // No BUYERS: the first is one too many.
            due(x.check(0), 1);
            due(x.count(8), 0);
        }
        due(x.told(4), 2);
        due(x.told(1), 0);
    }

    // ---- promise 36

    private static int checks(NinePots x, int step, int... numbers) {
        for (int number : numbers) {
            x.tell(number);
        }
        int answer = x.check(step);
        due(x.count(8), 0);
        return answer;
    }

    private static NinePots eightEager() {
        NinePots x = new NinePots();
        Checks.read(x, 0, "9999");
        for (int i = 0; i < 8; i++) {
            x.buyer(0, 0, 2);
        }
        return x;
    }

    static void checkOfNoBuyers() {
        says(36, "are what each BUYER would buy in a YEAR at a STEP now, by numbers, none being kept back: 0;");
        NinePots x = new NinePots();
        due(checks(x, 0), 0);
        due(checks(x, 9), 0);
        due(checks(x, 0, 0), 1);
        due(checks(x, 0, 0, 0), 1);
    }

    static void checkFromTheFirstToOneTooMany() {
        says(36, "else 1 and the place (from 0) of the first that isn't so, is missing, or one too many.");
        NinePots x = eightEager();
        // 9 pots, two each: the fifth gets one, the others none.
        int[] all = {2, 2, 2, 2, 1, 0, 0, 0};
        due(checks(x, 0, all), 0);
        due(checks(x, 9, all), 0);
        for (int place = 0; place < 8; place++) {
            int[] more = all.clone();
            more[place]++;
            due(checks(x, 0, more), 1 + place);
            int[] less = all.clone();
            less[place]--;
            due(checks(x, 0, less), 1 + place);
            // As many as there are ahead of that place: it is missing.
            due(checks(x, 0, java.util.Arrays.copyOf(all, place)), 1 + place);
        }
        due(checks(x, 0, 2, 2, 2, 2, 1, 0, 0, 0, 0), 9);
        due(checks(x, 0, java.util.Arrays.copyOf(all, 20)), 9);
        due(checks(x, 0, 2, 2, 2, 2, 1, 0, 0, 1, 0), 8);
    }

    static void checkOfNoPotsAndMany() {
        says(36, "would buy in a YEAR at a STEP now, by numbers, none being kept back");
        NinePots x = eightEager();
        x.set(2, 0);
        due(checks(x, 0, 0, 0, 0, 0, 0, 0, 0, 0), 0);
        x.set(3, 1);
        due(checks(x, 0, 1, 0, 0, 0, 0, 0, 0, 0), 0);
        x.set(3, 60);
        x.set(2, 20);
        due(checks(x, 0, 2, 2, 2, 2, 2, 2, 2, 2), 0);
        due(x.count(0), 0);
        due(x.count(5), 60);
        due(x.count(6), 0);
        due(x.ofBuyer(7, 3), 0);
        // In YEAR 199, too.
        NinePots y = eightEager();
        for (int i = 0; i < 7; i++) {
            y.life(i < 6 ? 30 : 19, 0);
        }
        due(y.year(0, 0), STATE);
        y.set(3, 0);
        due(checks(y, 0, 2, 2, 2, 2, 1, 0, 0, 0), 0);
    }

    static void checkBeyondLeavesNone() {
        says(36, "BEYOND (none wait then, too).");
        NinePots x = eightEager();
        due(checks(x, -1, 2, 2, 2, 2, 1, 0, 0, 0), BEYOND);
        due(checks(x, 0), 1);
        due(checks(x, 10, 2, 2, 2, 2, 1, 0, 0, 0), BEYOND);
        due(checks(x, 10), BEYOND);
        due(checks(x, 0, 2, 2, 2, 2, 1, 0, 0, 0), 0);
        due(x.told(1), 3);
    }

    // ---- promise 37

    static void countFromNowToZ() {
        says(37, "0 NOW, 1 BUYERS, 2 LAST, 3 NAME, 4 MAKES, 5 KEPT, 6 PURSE, 7 bytes of THE TAPE, 8 numbers that wait, 9 BODIES in THE TRACE");
        Asked x = State.FULL.made();
        long[] most = {199, 8, 9, 12, 20, 60, 99999999, 50, 20, 14};
        for (int what = 0; what < most.length; what++) {
            due(x.ask("count", what), most[what]);
        }
        Asked y = State.EMPTY.made();
        long[] least = {0, 1, 9, 0, 0, 0, -99999999, 0, 0, 1};
        for (int what = 0; what < least.length; what++) {
            due(y.ask("count", what), least[what]);
        }
        due(y.ask("count", -1), BEYOND);
        due(y.ask("count", 11), BEYOND);
        due(y.ask("count", 10), 1);
        due(y.ask("seed", KIND), 1);
        due(y.ask("count", 10), KIND);
        due(y.ask("told", 5), 0);
        due(y.ask("told", 1), 2);
    }

    // ---- promise 38

    static void toldFromOneToFive() {
        says(38, "How many acts have answered an ERROR LOW - k (k 1 .. 5); BEYOND: another k (counted, too).");
        NinePots x = new NinePots();
        for (int k = 1; k <= 5; k++) {
            due(x.told(k), 0);
        }
        int beyond = 0;
        for (int k : new int[] {0, 6, -1, SMALL, BIG, BEYOND}) {
            due(x.told(k), BEYOND);
            beyond++;
            due(x.told(1), beyond);
        }
        for (int k = 2; k <= 5; k++) {
            due(x.told(k), 0);
        }
    }

    static void toldOfEachSort() {
        says(38, "LOW is -1000000000; LOW - 1 BEYOND, LOW - 2 NONE, LOW - 3 STATE, LOW - 4 FULL, LOW - 5 KIND.");
        NinePots x = new NinePots();
        for (int i = 0; i < 20; i++) {
            x.tell(0);
        }
        x.buyer(0, 0, 1);
        due(x.coins(-1, 1), -1000000001);
        due(x.restore(), -1000000002);
        due(x.give(0), -1000000003);
        due(x.tell(0), -1000000004);
        due(x.as(0, 1), -1000000005);
        for (int k = 1; k <= 5; k++) {
            due(x.told(k), 1);
        }
    }

    static void toldOfFiveHundred() {
        says(38, "How many acts have answered an ERROR LOW - k (k 1 .. 5)");
        NinePots x = new NinePots();
        for (int i = 0; i < 511; i++) {
            x.trace(i);
        }
        due(x.told(2), 511);
        NinePots y = new NinePots();
        for (int i = 0; i < 511; i++) {
            y.told(0);
        }
        due(y.told(1), 511);
    }

    static void toldNothingOfAFault() {
        says(38, "-10 less the FAULT (no ERROR;");
        NinePots x = new NinePots();
        due(x.text(0), -10);
        due(Checks.read(x, 1, "1+"), -12);
        due(x.buyers(0), NONE);
        x.sheet(0, 8, 3);
        // Threes that don't come are no ERRORS either.
        due(x.buyers(0), 0);
        due(x.check(0), 0);
        for (int k = 1; k <= 5; k++) {
            due(x.told(k), k == 2 ? 1 : 0);
        }
    }
}
