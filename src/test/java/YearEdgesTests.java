/** Promises 10 to 15 at the edges that the document names: texts, years. */
public final class YearEdgesTests {
    private static final int BEYOND = Checks.BEYOND;
    private static final int STATE = Checks.STATE;
    private static final int FULL = Checks.FULL;
    private static final int BIG = Integer.MAX_VALUE;
    private static final int SMALL = Integer.MIN_VALUE;
    private static final int DEALER = 2;
    private static final int KEEPER = 3;
    private static final int FRIEND = 4;
    private static final String[] NAMES = {"wnlh", "sknu"};

    public static void main(String[] args) throws Exception {
        Sentence.runAll(YearEdgesTests.class, 10, 15);
    }

    private static void says(int promise, String words) {
        Sentence.says(promise, words);
    }

    private static void due(long got, long want) {
        Sentence.due(got, want);
    }

    // ---- promise 10

    static void feedFromOneToEight() {
        says(10, "The n lowest bytes (1 .. 8) of a word, the lowest first, come to THE TAPE: how many there are.");
        String digits = "1+2+3+4+";
        for (int n = 1; n <= 8; n++) {
            NinePots x = new NinePots();
            due(x.feed(Checks.word(digits, 0, 8), n), n);
            due(x.count(7), n);
            // Behind n bytes of it 5 ends the TEXT, if the n-th is a plus.
            due(x.feed('5', 1), n + 1);
            int[] gives = {15, 6, 1 + 25, 1 + 2 + 5, 1 + 2 + 35, 1 + 2 + 3 + 5, 6 + 45, 10 + 5};
            due(x.text(0), 1);
            due(x.law(0, 0, 0, 0, 0), gives[n - 1]);
        }
        NinePots y = new NinePots();
        due(y.feed('w', 0), BEYOND);
        due(y.feed('w', 9), BEYOND);
        due(y.feed('w', -1), BEYOND);
        due(y.count(7), 0);
    }

    static void feedWordsWithASign() {
        says(10, "The n lowest bytes (1 .. 8) of a word, the lowest first, come to THE TAPE: how many there are.");
        NinePots x = new NinePots();
        due(x.feed(Long.MIN_VALUE + 'w', 1), 1);
        due(x.text(0), 1);
        due(x.law(0, 7, 0, 0, 0), 7);
        // The eighth byte is 128: no TEXT goes on with it.
        due(x.feed(Checks.word("1+1+1+1", 0, 7) | Long.MIN_VALUE, 8), 8);
        due(x.text(0), -17);
        due(x.feed(-1L, 8), 8);
        due(x.text(0), -10);
    }

    static void feedUpToFifty() {
        says(10, "TEXTS are read from THE TAPE (bytes, at most 50)");
        NinePots x = new NinePots();
        for (int i = 1; i <= 5; i++) {
            due(x.feed('1', 8), 8 * i);
        }
        due(x.feed('1', 3), 43);
        due(x.feed('1', 8), FULL);
        due(x.count(7), 43);
        due(x.feed('1', 7), 50);
        for (int n = 1; n <= 8; n++) {
            due(x.feed('1', n), FULL);
        }
        due(x.count(7), 50);
        // BEYOND is asked ahead of FULL.
        due(x.feed('1', 9), BEYOND);
        due(x.feed('1', 0), BEYOND);
        due(x.told(4), 9);
        x.text(0);
        due(x.feed('1', 1), 1);
    }

    // ---- promise 11

    /** A TEXT's answer: 1, or -10 less the FAULT. */
    private static int reads(int use, String text) {
        NinePots x = new NinePots();
        int answer = Checks.read(x, use, text);
        due(x.count(7), 0);
        return answer;
    }

    private static boolean isOf(String signs, int sign) {
        return signs.indexOf(sign) >= 0;
    }

    /** What is due if each of the 256 bytes comes behind a beginning. */
    private static void goesOn(int use, String begin, String ends, String wantsMore) {
        for (int sign = 0; sign < 256; sign++) {
            int n = begin.length();
            int want = isOf(ends, sign) ? 1 : isOf(wantsMore, sign) ? -11 - n : -10 - n;
            due(reads(use, begin + (char) sign), want);
        }
    }

    static void faultsByEachByte() {
        says(11, "FAULT: the place of the first byte with which no TEXT, however long, goes on; how many there are, if it ends too early.");
        for (int use = 0; use < 2; use++) {
            String operand = "0123456789" + NAMES[use];
            String name = NAMES[use].substring(0, 1);
            goesOn(use, "", operand, "!(");
            goesOn(use, "1+", operand, "!(");
            goesOn(use, "1|", operand, "!(");
            goesOn(use, "!", operand, "!(");
            goesOn(use, name, "", "|&<=>+-*/%");
            goesOn(use, "123", "0123456789", "|&<=>+-*/%");
            goesOn(use, "1234", "", "|&<=>+-*/%");
            goesOn(use, "(" + name, ")", "|&<=>+-*/%");
            goesOn(use, "(1)", "", "|&<=>+-*/%");
            goesOn(use, "1<2", "0123456789", "|&+-*/%");
            goesOn(use, "1=" + name, "", "|&+-*/%");
            goesOn(use, "(1>" + name, ")", "|&+-*/%");
            goesOn(use, "1<2&" + name, "", "|&<=>+-*/%");
            goesOn(use, "!!!!!", operand, "");
            goesOn(use, "(((((", "", operand);
            goesOn(use, "!(!(!", "", operand);
        }
    }

    static void faultOfAnEmptyTape() {
        says(11, "how many there are, if it ends too early.");
        due(reads(0, ""), -10);
        due(reads(1, ""), -10);
        String[] early = {"!", "(", "w+", "(w", "w|n&", "((w)", "!(", "w<"};
        for (String text : early) {
            due(reads(0, text), -10 - text.length());
        }
    }

    static void faultOfAFullTape() {
        says(11, "FAULT: the place of the first byte with which no TEXT, however long, goes on; how many there are, if it ends too early.");
        due(reads(0, "w+".repeat(24) + "w0"), -10 - 49);
        due(reads(0, "w+".repeat(24) + "10"), 1);
        due(reads(0, "w+".repeat(25)), -10 - 50);
        due(reads(0, "w+".repeat(24) + "(w"), -10 - 50);
        due(reads(0, "w+".repeat(24) + "w)"), -10 - 49);
        due(reads(0, ")" + "w+".repeat(24) + "w"), -10);
        due(reads(0, "1|".repeat(22) + "(((1))"), -10 - 50);
        due(reads(0, "1|".repeat(22) + "((10))"), 1);
    }

    static void numbersOfOneToFourDigits() {
        says(11, "a NUMBER of 1 to 4 digits");
        due(reads(0, "0"), 1);
        due(reads(0, "0000"), 1);
        due(reads(0, "9999"), 1);
        due(reads(0, "00000"), -14);
        due(reads(0, "10000"), -14);
        due(reads(0, "1+99999"), -16);
        due(reads(0, "(1234)"), 1);
        due(reads(0, "(12345)"), -15);
        due(reads(0, "-1"), -10);
    }

    static void noBlanks() {
        says(11, "No blanks.");
        due(reads(0, " w"), -10);
        due(reads(0, "w "), -11);
        due(reads(0, "w +n"), -11);
        due(reads(0, "w+ n"), -12);
        due(reads(0, "(w )"), -12);
        due(reads(0, "w\n"), -11);
        due(reads(0, "w\t"), -11);
    }

    /** Five signs, ! and ( by the bits of a number. */
    private static String opens(int bits, int n) {
        StringBuilder text = new StringBuilder();
        for (int i = 0; i < n; i++) {
            text.append((bits >> i & 1) == 0 ? '!' : '(');
        }
        return text.toString();
    }

    static void atMostFiveOpen() {
        says(11, "At most 5 of ! and ( are open at once.");
        for (int bits = 0; bits < 64; bits++) {
            String five = opens(bits, 5);
            String closed = five + "1" + ")".repeat(Integer.bitCount(bits & 31));
            due(reads(0, closed), 1);
            due(reads(0, opens(bits, 6)), -15);
            due(reads(0, opens(bits, 6) + "1"), -15);
            // What is closed is open no more.
            due(reads(0, closed + "|" + closed + "&" + closed), 1);
            due(reads(0, closed + "|" + opens(bits, 6)), -10 - closed.length() - 6);
        }
        due(reads(0, "(1+(1+(1+(1+(1+1)))))"), 1);
        due(reads(0, "(1+(1+(1+(1+(1+(1"), -25);
        due(reads(0, "((((!1))))"), 1);
        due(reads(0, "((((!1+!1))))"), 1);
        due(reads(0, "((((!1+!!1))))"), -18);
        due(reads(0, "((((!1+(1)))))"), 1);
        due(reads(0, "((((!(1)))))"), -15);
    }

    static void joinsTwoByComparing() {
        says(11, "B: S, or S < S, S = S, S > S.");
        for (char first : "<=>".toCharArray()) {
            due(reads(0, "w" + first + "n"), 1);
            for (char second : "<=>".toCharArray()) {
                due(reads(0, "w" + first + "n" + second + "h"), -13);
                due(reads(0, "w" + first + second + "h"), -12);
                due(reads(0, "(w" + first + "n)" + second + "h"), 1);
                due(reads(0, "w" + first + "n&w" + second + "n"), 1);
            }
        }
    }

    static void namesOfEachUse() {
        says(11, "1 FAME (by how much NAME is more behind a year), NAMES s sold, k what stands, n NAME, u the STEP less LAST");
        for (char name : "wlh".toCharArray()) {
            due(reads(0, "" + name), 1);
            due(reads(1, "" + name), -10);
            due(reads(1, "n+" + name), -12);
        }
        for (char name : "sku".toCharArray()) {
            due(reads(1, "" + name), 1);
            due(reads(0, "" + name), -10);
            due(reads(0, "n+" + name), -12);
        }
        due(reads(0, "n"), 1);
        due(reads(1, "n"), 1);
        due(reads(0, "W"), -10);
        due(reads(1, "N"), -10);
        due(reads(0, "" + (char) ('w' + 128)), -10);
    }

    static void textTakesThePlaceOfOneAhead() {
        says(11, "THE TAPE, which is empty then, is the TEXT of a USE (0, 1), in place of one ahead: 1.");
        NinePots x = new NinePots();
        due(Checks.read(x, 0, "1+1+1+1+1+1+w"), 1);
        due(x.count(7), 0);
        due(x.law(0, 10, 0, 0, 0), 16);
        due(Checks.read(x, 0, "w"), 1);
        due(x.law(0, 10, 0, 0, 0), 10);
        due(Checks.read(x, 1, "2"), 1);
        due(x.law(0, 10, 0, 0, 0), 10);
        due(x.law(1, 0, 9, 0, 0), 2);
        due(x.text(0), -10);
        due(x.law(0, 10, 0, 0, 0), 10);
        due(Checks.read(x, 1, "1+"), -12);
        due(x.law(1, 0, 9, 0, 0), 2);
        due(x.told(1), 0);
    }

    static void textOfNoUseLeavesTheTape() {
        says(11, "BEYOND (THE TAPE stays).");
        NinePots x = new NinePots();
        Checks.feed(x, "w+3");
        due(x.text(-1), BEYOND);
        due(x.text(2), BEYOND);
        due(x.count(7), 3);
        due(x.text(0), 1);
        due(x.law(0, 4, 0, 0, 0), 7);
    }

    // ---- promise 12

    private static int gives(String text, int a, int b, int c) {
        NinePots x = new NinePots();
        due(Checks.read(x, 0, text), 1);
        return x.law(0, a, b, c, 0);
    }

    static void lawHoldsWorth() {
        says(12, "held within 0 to 99999; without a TEXT as that of w+n*5-h would give.");
        int[] given = {SMALL, -1, 0, 1, 99998, 99999, 100000, BIG};
        int[] held = {0, 0, 0, 1, 99998, 99999, 99999, 99999};
        NinePots x = new NinePots();
        for (int i = 0; i < given.length; i++) {
            due(x.law(0, given[i], 0, 0, 0), held[i]);
            due(gives("w", given[i], 0, 0), held[i]);
        }
        due(x.law(0, 0, 0, 0, 1), 0);
        due(x.law(0, 1, 0, 0, 1), 0);
        due(x.law(0, 2, 0, 0, 1), 1);
        due(x.law(0, 0, -1, 0, -6), 1);
        // Without a TEXT ints wrap as with one.
        due(x.law(0, BIG, 1, 0, 0), 0);
        due(x.law(0, SMALL, 0, 0, 1), 99999);
        due(x.law(0, 0, 858993460, 0, 0), 4);
        due(x.law(0, 7, 0, BIG, 0), 7);
    }

    static void lawHoldsFame() {
        says(12, "held within -3 to 3; without as that of (k=0)-(k>3) would.");
        int[] given = {SMALL, -4, -3, -2, 0, 2, 3, 4, BIG};
        int[] held = {-3, -3, -3, -2, 0, 2, 3, 3, 3};
        NinePots x = new NinePots();
        int[] stand = {SMALL, -1, 0, 1, 2, 3, 4, 5, BIG};
        int[] without = {0, 0, 1, 0, 0, 0, -1, -1, -1};
        for (int i = 0; i < stand.length; i++) {
            due(x.law(1, 0, stand[i], 0, 0), without[i]);
        }
        Checks.read(x, 1, "u");
        for (int i = 0; i < given.length; i++) {
            due(x.law(1, 0, 0, 0, given[i]), held[i]);
        }
    }

    static void intsThatWrap() {
        says(12, "Ints that wrap");
        due(gives("(w+n)=l", BIG, 1, SMALL), 1);
        due(gives("(w-n)=l", SMALL, 1, BIG), 1);
        due(gives("(w*n)=l", BIG, 2, -2), 1);
        due(gives("(w*n)=l", SMALL, -1, SMALL), 1);
        due(gives("(w*n)=l", 46341, 46341, -2147479015), 1);
        due(gives("9999*9999*9999=l", 0, 0, (int) (9999L * 9999L * 9999L)), 1);
        due(gives("w<n", SMALL, BIG, 0), 1);
        due(gives("w>n", BIG, SMALL, 0), 1);
        due(gives("w-n<0", SMALL, 1, 0), 0);
    }

    static void quotientsAreCut() {
        says(12, "Quotients are cut toward 0.");
        int[][] quotients = {{7, 2, 3}, {-7, 2, -3}, {7, -2, -3}, {-7, -2, 3}, {1, 2, 0}, {-1, 2, 0}, {SMALL, -1, SMALL}, {SMALL, 1, SMALL}};
        for (int[] one : quotients) {
            due(gives("(w/n)=l", one[0], one[1], one[2]), 1);
        }
    }

    static void restsThatAreLeft() {
        says(12, "/ cut, % the rest that it leaves, both by 0 are 0");
        int[][] rests = {{7, 2, 1}, {-7, 2, -1}, {7, -2, 1}, {-7, -2, -1}, {6, 2, 0}, {SMALL, -1, 0}, {SMALL, BIG, -1}, {0, 5, 0}};
        for (int[] one : rests) {
            due(gives("(w%n)=l", one[0], one[1], one[2]), 1);
        }
        int[] by = {SMALL, -1, 0, 1, BIG};
        for (int w : by) {
            due(gives("w/n+5", w, 0, 0), 5);
            due(gives("w%n+5", w, 0, 0), 5);
        }
        due(gives("7/(w-w)+7%0", 3, 0, 0), 0);
    }

    static void truthIsOneOrNought() {
        says(12, "| & < = > ! are 1 or 0, what is not 0 being true; all is worked out.");
        int[] numbers = {SMALL, -1, 0, 1, 2, BIG};
        for (int a : numbers) {
            due(gives("!w", a, 0, 0), a == 0 ? 1 : 0);
            due(gives("!!w", a, 0, 0), a == 0 ? 0 : 1);
            for (int b : numbers) {
                due(gives("w|n", a, b, 0), a != 0 || b != 0 ? 1 : 0);
                due(gives("w&n", a, b, 0), a != 0 && b != 0 ? 1 : 0);
                due(gives("w<n", a, b, 0), a < b ? 1 : 0);
                due(gives("w=n", a, b, 0), a == b ? 1 : 0);
                due(gives("w>n", a, b, 0), a > b ? 1 : 0);
            }
        }
        due(gives("2&4", 0, 0, 0), 1);
        due(gives("2|4", 0, 0, 0), 1);
        due(gives("0&1/0", 0, 0, 0), 0);
        due(gives("1|1/0", 0, 0, 0), 1);
    }

    static void lawOfNoUse() {
        says(12, "What a USE gives with its NAMES in order as a, b, c, d. BEYOND.");
        NinePots x = new NinePots();
        due(x.law(-1, 1, 1, 1, 1), BEYOND);
        due(x.law(2, 1, 1, 1, 1), BEYOND);
        for (int use = 0; use < 2; use++) {
            for (int i = 0; i < 4; i++) {
                Checks.read(x, use, NAMES[use].substring(i, i + 1));
                int[] given = {0, 0, 0, 0};
                given[i] = 3;
                due(x.law(use, given[0], given[1], given[2], given[3]), 3);
            }
        }
    }

    // ---- promise 13

    /** BUYERS who buy all that they take, at any STEP. */
    private static NinePots eager(int... mosts) {
        NinePots x = new NinePots();
        Checks.read(x, 0, "9999");
        for (int most : mosts) {
            x.buyer(0, 0, most);
        }
        return x;
    }

    static void yearOfTheEdgesLetIn() {
        says(13, "A YEAR at a STEP with b kept back (0 to 99)");
        NinePots x = eager(9);
        due(x.year(0, -1), BEYOND);
        due(x.year(0, 100), BEYOND);
        due(x.year(-1, 0), BEYOND);
        due(x.year(10, 0), BEYOND);
        due(x.count(0), 0);
        due(x.year(0, 0), 9);
        due(x.count(2), 0);
        due(x.year(9, 99), 0);
        due(x.count(2), 9);
        due(x.count(0), 2);
    }

    static void onSaleIsWhatIsMoreThanKeptBack() {
        says(13, "there are KEPT and MAKES pots; those are on sale that are more than b.");
        int[] backs = {0, 7, 8, 9, 10, 99};
        int[] sold = {9, 2, 1, 0, 0, 0};
        for (int i = 0; i < backs.length; i++) {
            NinePots x = eager(9);
            due(x.year(0, backs[i]), sold[i]);
            due(x.count(5), 9 - sold[i]);
            // What is kept back doesn't stand on sale: NAME is 1 more.
            due(x.count(3), 7);
        }
        int[] manyBacks = {79, 80, 81, 99};
        for (int back : manyBacks) {
            NinePots x = eager(9);
            x.set(2, 20);
            x.set(3, 60);
            due(x.year(0, back), back == 79 ? 1 : 0);
        }
    }

    static void yearWithoutPots() {
        says(13, "BUYERS by numbers, if they come, buy (BUYS, by what is left on sale)");
        NinePots x = eager(9);
        x.set(2, 0);
        x.set(5, 999);
        due(x.year(3, 0), 0);
        due(x.count(0), 1);
        due(x.count(2), 3);
        due(x.count(3), 7);
        due(x.count(5), 0);
        // None is made: no PAINS.
        due(x.count(6), 0);
        due(x.ofBuyer(0, 3), 0);
    }

    static void buyersByNumbersTillNoneIsLeft() {
        says(13, "BUYERS by numbers, if they come, buy (BUYS, by what is left on sale)");
        int[][] mosts = {{9, 9}, {8, 9}, {4, 5, 1}, {3, 3, 2, 2}, {1, 1, 1, 1, 1, 1, 1, 1}, {2, 2, 2, 2, 2, 2, 2, 2}};
        int[][] has = {{9, 0}, {8, 1}, {4, 5, 0}, {3, 3, 2, 1}, {1, 1, 1, 1, 1, 1, 1, 1}, {2, 2, 2, 2, 1, 0, 0, 0}};
        for (int i = 0; i < mosts.length; i++) {
            NinePots x = eager(mosts[i]);
            int sold = 0;
            for (int one : has[i]) {
                sold += one;
            }
            due(x.year(1, 0), sold);
            due(x.count(6), 20 * sold);
            for (int buyer = 0; buyer < has[i].length; buyer++) {
                due(x.ofBuyer(buyer, 3), has[i][buyer]);
            }
        }
    }

    static void worthIsOfWhatItHasAheadOfTheYear() {
        says(13, "none, if DUE is above WORTH (of what it HAS ahead of the year)");
        NinePots x = new NinePots();
        Checks.read(x, 0, "w-h");
        x.buyer(DEALER, 10, 9);
        // One more in hand would make a pot worth 4 less than is due.
        due(x.year(0, 0), 9);
        due(x.ofBuyer(0, 3), 9);
        NinePots y = new NinePots();
        Checks.read(y, 0, "w-h");
        y.buyer(0, 10, 3);
        due(y.year(0, 0), 3);
        due(y.year(0, 0), 0);
    }

    static void lastIsTheOneAheadOfTheYear() {
        says(13, "LAST is the STEP; NOW is 1 more.");
        NinePots x = new NinePots();
        Checks.read(x, 0, "l");
        x.buyer(DEALER, 0, 2);
        x.set(0, 4);
        // 50 are worth 60 above LAST, and twice as many are taken.
        due(x.year(5, 0), 4);
        due(x.count(2), 5);
        x.has(0, 0);
        due(x.year(5, 0), 2);
        due(x.count(2), 5);
        due(x.count(0), 2);
    }

    static void hasAtMost9999() {
        says(13, "HAS so many (0 at first; 9999 at most: what is beyond is bought, paid for all the same)");
        int[] had = {9995, 9996, 9997, 9998, 9999};
        int[] has = {9998, 9999, 9999, 9999, 9999};
        for (int i = 0; i < had.length; i++) {
            NinePots x = eager(3);
            x.has(0, had[i]);
            due(x.year(0, 0), 3);
            due(x.ofBuyer(0, 3), has[i]);
            due(x.count(6), 30);
            due(x.count(5), 6);
        }
    }

    private static int purseBehind(int purse, int pains, int coins) {
        NinePots x = eager(9);
        x.set(4, purse);
        x.set(5, pains);
        x.coins(0, coins);
        x.year(0, 0);
        return x.count(6);
    }

    static void purseIsHeldOnce() {
        says(13, "less by PAINS (0 to 999 a pot that is made; 0 at first) times MAKES; held once by both.");
        due(purseBehind(99999999 - 90, 0, 10), 99999999);
        due(purseBehind(99999999 - 89, 0, 10), 99999999);
        due(purseBehind(99999999 - 91, 0, 10), 99999998);
        due(purseBehind(99999999, 0, 9999), 99999999);
        due(purseBehind(-99999999 + 81, 10, 1), -99999999);
        due(purseBehind(-99999999 + 80, 10, 1), -99999999);
        due(purseBehind(-99999999 + 82, 10, 1), -99999998);
        due(purseBehind(-99999999, 999, 1), -99999999);
        // Neither what is paid nor PAINS alone is held.
        due(purseBehind(99999999, 10, 10), 99999999);
        due(purseBehind(99999999, 11, 10), 99999999 - 9);
        due(purseBehind(-99999999, 10, 10), -99999999);
        due(purseBehind(-99999999, 10, 11), -99999999 + 9);
        due(purseBehind(0, 999, 1), 9 - 9 * 999);
    }

    static void painsAreOfAllThatIsMade() {
        says(13, "PAINS (0 to 999 a pot that is made; 0 at first) times MAKES");
        NinePots x = new NinePots();
        x.set(2, 20);
        x.set(3, 60);
        x.set(5, 999);
        x.year(0, 99);
        due(x.count(6), -20 * 999);
    }

    private static int nameBehind(int name, String fame) {
        NinePots x = new NinePots();
        Checks.read(x, 1, fame);
        x.set(1, name);
        x.year(0, 0);
        return x.count(3);
    }

    static void nameIsHeld() {
        says(13, "Behind that NAME is more by FAME (k being what was on sale and stands), held;");
        for (int name = 0; name <= 12; name++) {
            due(nameBehind(name, "3"), Math.min(12, name + 3));
            due(nameBehind(name, "0-3"), Math.max(0, name - 3));
            due(nameBehind(name, "9999"), Math.min(12, name + 3));
            due(nameBehind(name, "0-9999"), Math.max(0, name - 3));
        }
    }

    static void nameByWhatStands() {
        says(13, "without as that of (k=0)-(k>3) would.");
        // 9 pots, b of them kept back, 4 sold: 5 - b stand.
        int[] names = {5, 5, 6, 6, 6, 7, 7, 7, 7, 7};
        for (int back = 0; back <= 9; back++) {
            NinePots x = eager(4);
            x.year(0, back);
            due(x.count(3), names[back]);
        }
    }

    static void fameIsAskedOfTheYearThatWas() {
        says(13, "NAMES s sold, k what stands, n NAME, u the STEP less LAST");
        String[] texts = {"s=4", "k=3", "n=6", "u=0-9", "u=9"};
        for (int i = 0; i < texts.length; i++) {
            NinePots x = eager(4);
            Checks.read(x, 1, texts[i]);
            x.set(0, i == 4 ? 0 : 9);
            x.year(i == 4 ? 9 : 0, 2);
            due(x.count(3), 7);
        }
    }

    static void keptAtMostSixty() {
        says(13, "KEPT is what isn't sold, 60 at most;");
        int[][] pots = {{60, 0, 60}, {59, 1, 60}, {60, 1, 60}, {60, 20, 60}, {40, 20, 60}, {40, 19, 59}, {41, 20, 60}, {0, 0, 0}};
        for (int[] one : pots) {
            NinePots x = new NinePots();
            x.set(3, one[0]);
            x.set(2, one[1]);
            x.year(0, 0);
            due(x.count(5), one[2]);
        }
        // 80 pots: 19, 20, 21 sold leave 61, 60, 59.
        int[] last = {1, 2, 3};
        for (int most : last) {
            NinePots x = eager(9, 9, most);
            x.set(3, 60);
            x.set(2, 20);
            due(x.year(0, 0), 18 + most);
            due(x.count(5), Math.min(60, 62 - most));
            // What is beyond stood on sale, too: NAME falls.
            due(x.count(3), 5);
        }
    }

    static void yearUpToNumber199() {
        says(13, "YEARS are 0 to 199; NOW is one (0 at first).");
        NinePots x = eager(1);
        for (int now = 1; now <= 199; now++) {
            due(x.year(0, 0), 1);
        }
        due(x.count(0), 199);
        due(x.year(0, 0), STATE);
        due(x.count(0), 199);
        due(x.ofBuyer(0, 3), 199);
        // BEYOND is asked ahead of STATE.
        due(x.year(10, 0), BEYOND);
        due(x.year(0, 100), BEYOND);
    }

    // ---- promise 14

    static void giveTheLastOne() {
        says(14, "One pot is GIVEN: what the BUYER HAS then. BEYOND. STATE: none is KEPT.");
        NinePots x = new NinePots();
        due(x.give(0), BEYOND);
        x.buyer(0, 1, 1);
        // Pots that are made in a year to come can't be given.
        due(x.count(4), 9);
        due(x.give(0), STATE);
        x.set(3, 1);
        due(x.give(1), BEYOND);
        due(x.give(-1), BEYOND);
        due(x.give(0), 1);
        due(x.count(5), 0);
        due(x.give(0), STATE);
        due(x.give(1), BEYOND);
        due(x.ofBuyer(0, 3), 1);
        x.set(3, 60);
        due(x.give(0), 2);
        due(x.count(5), 59);
        due(x.count(0), 0);
        due(x.count(2), 0);
        due(x.count(4), 9);
        due(x.count(6), 0);
    }

    static void giveToOneWhoHasMost() {
        says(14, "GIVEN to a BUYER: one of KEPT; it HAS one more;");
        for (int kind = 0; kind < 7; kind++) {
            NinePots x = new NinePots();
            x.buyer(kind, 1, 1);
            x.set(3, 3);
            x.has(0, 9997);
            due(x.give(0), 9998);
            due(x.give(0), 9999);
            due(x.give(0), 9999);
            due(x.count(5), 0);
        }
    }

    static void giveToAKeeperMakesAName() {
        says(14, "NAME is 1 more (held), if it is a KEEPER or under.");
        for (int kind = 0; kind < 7; kind++) {
            NinePots x = new NinePots();
            x.buyer(kind, 1, 1);
            // One who HAS 6 is given one, too.
            x.has(0, 6);
            for (int name : new int[] {0, 10, 11, 12}) {
                x.set(3, 1);
                x.set(1, name);
                x.give(0);
                due(x.count(3), kind == KEEPER || kind == FRIEND ? Math.min(12, name + 1) : name);
            }
        }
    }

    // ---- promise 15

    /** What DRAWS make of z, worked out without its sign. */
    private static long next(long z) {
        return z * 1103515245L + 12345L & 0xFFFFFFFFL;
    }

    /** A seed whose first draw leaves a rest by 13; of those with a sign, if it is wanted. */
    private static int seedFor(int rest, boolean sign) {
        for (int seed = 0; seed < 100000; seed++) {
            long z = next(seed);
            if (z >> 31 == (sign ? 1 : 0) && (z >> 8) % 13 == rest) {
                return seed;
            }
        }
        throw new IllegalStateException("no seed for " + rest);
    }

    static void comesIfTheRestIsBelowNameAndOne() {
        says(15, "it comes, if the rest by 13 is below NAME and 1 (as of the year's beginning).");
        for (int rest = 0; rest < 13; rest++) {
            for (int name = 0; name <= 12; name++) {
                for (int sign = 0; sign < 2; sign++) {
                    NinePots x = eager(1);
                    x.set(1, name);
                    x.seed(seedFor(rest, sign == 1));
                    due(x.life(1, 0), rest <= name ? 1 : 0);
                }
            }
        }
    }

    static void drawsGoRound() {
        says(15, "each makes it z * 1103515245 + 12345 (an int), and gives z >>> 8.");
        for (int seed : new int[] {SMALL, SMALL + 1, -1, 0, 1, BIG - 1, BIG}) {
            NinePots x = eager(1);
            x.seed(seed);
            boolean comes = (next(seed & 0xFFFFFFFFL) >> 8) % 13 <= 6;
            due(x.life(1, 0), comes ? 1 : 0);
            due(x.count(10), (int) next(seed & 0xFFFFFFFFL));
        }
    }

    static void lifeWithoutBuyersOrPots() {
        says(15, "in each year each BUYER by numbers has a draw");
        NinePots x = new NinePots();
        due(x.life(30, 9), 0);
        due(x.count(10), 1);
        due(x.count(0), 30);
        // None is left for the second, none for any, yet all have a draw.
        NinePots y = eager(9, 9, 9);
        y.set(1, 12);
        due(y.life(1, 0), 9);
        due(y.count(10), (int) next(next(next(1))));
        y.set(2, 0);
        y.seed(1);
        due(y.life(1, 0), 0);
        due(y.count(10), (int) next(next(next(1))));
    }

    static void nameOfTheYearsBeginning() {
        says(15, "it comes, if the rest by 13 is below NAME and 1 (as of the year's beginning).");
        // FAME is 3 or -3 a year: whoever comes in the second year comes by the NAME that the first has left.
        for (int seed = 0; seed < 60; seed++) {
            NinePots x = eager(1, 1);
            Checks.read(x, 1, "s*9-9");
            x.set(1, 6);
            x.seed(seed);
            long z = seed;
            int name = 6;
            int all = 0;
            for (int year = 0; year < 4; year++) {
                int sold = 0;
                for (int buyer = 0; buyer < 2; buyer++) {
                    z = next(z);
                    sold += (z >> 8) % 13 <= name ? 1 : 0;
                }
                name = Math.max(0, Math.min(12, name + Math.max(-3, Math.min(3, sold * 9 - 9))));
                all += sold;
            }
            due(x.life(4, 0), all);
            due(x.count(3), name);
            due(x.count(10), (int) z);
            due(x.count(6), 10 * all);
            due(x.count(5), 36 - all);
        }
    }

    static void lifeOfOneToThirtyYears() {
        says(15, "A LIFE of n (1 to 30) YEARS: how many are sold in all. BEYOND.");
        NinePots x = eager(1);
        x.set(1, 12);
        Checks.read(x, 1, "0");
        due(x.life(0, 0), BEYOND);
        due(x.life(31, 0), BEYOND);
        due(x.life(1, -1), BEYOND);
        due(x.life(1, 10), BEYOND);
        due(x.count(0), 0);
        due(x.count(10), 1);
        due(x.life(1, 0), 1);
        due(x.count(0), 1);
        due(x.life(30, 9), 30);
        due(x.count(0), 31);
        due(x.count(2), 9);
    }

    private static void live(Asked x, int years) {
        x.ask("buyer", 0, 50, 1);
        for (int left = years; left > 0; left -= 30) {
            x.ask("life", Math.min(30, left), 3);
        }
    }

    static void lifeUpToYear199() {
        says(15, "BEYOND. STATE: NOW would be above 199.");
        for (int n : new int[] {1, 2, 29, 30}) {
            Asked letIn = new Asked();
            live(letIn, 199 - n);
            due(letIn.ask("count", 0), 199 - n);
            letIn.ask("life", n, 3);
            due(letIn.ask("count", 0), 199);
            // One year more: nothing is lived at all, z and KEPT stay.
            Sentence.refusedBehind(x -> live(x, 200 - n), STATE, "life", n, 3);
            Sentence.refusedBehind(x -> live(x, 200 - n), BEYOND, "life", 31, 3);
            Sentence.refusedBehind(x -> live(x, 200 - n), BEYOND, "life", n, 10);
        }
    }

    static void lifeIsHeldAsYearsAre() {
        says(15, "A LIFE of n YEARS at a STEP by DRAWS");
        NinePots x = eager(9);
        x.set(1, 12);
        x.set(4, 99999999 - 100);
        x.has(0, 9990);
        due(x.life(3, 4), 27);
        due(x.count(6), 99999999);
        due(x.ofBuyer(0, 3), 9999);
        due(x.count(3), 12);
        NinePots y = new NinePots();
        y.set(3, 55);
        y.set(5, 999);
        y.set(4, -99999999 + 9000);
        due(y.life(2, 0), 0);
        due(y.count(5), 60);
        due(y.count(6), -99999999);
        due(y.count(3), 4);
    }
}
