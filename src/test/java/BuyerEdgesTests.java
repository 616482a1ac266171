/** Promises 1 to 9 at the edges that the document names: steps, settings, buyers. */
public final class BuyerEdgesTests {
    private static final int BEYOND = Checks.BEYOND;
    private static final int NONE = Checks.NONE;
    private static final int FULL = Checks.FULL;
    private static final int KIND = Checks.KIND;
    private static final int RISER = 1;
    private static final int DEALER = 2;
    private static final int KEEPER = 3;
    private static final int FRIEND = 4;
    private static final int SHOP = 5;
    private static final int CROWD = 6;

    public static void main(String[] args) throws Exception {
        Sentence.runAll(BuyerEdgesTests.class, 1, 9);
    }

    private static void says(int promise, String words) {
        Sentence.says(promise, words);
    }

    private static void due(long got, long want) {
        Sentence.due(got, want);
    }

    /** One BUYER of a KIND to whom WORTH (as BUYER) is just what it WANTS. */
    private static NinePots one(int kind, int wants, int most) {
        NinePots x = new NinePots();
        Checks.read(x, 0, "w");
        x.buyer(kind, wants, most);
        return x;
    }

    private static int worth(NinePots x, int step) {
        return x.at(0, step, 0, 0);
    }

    private static int buys(NinePots x, int step, int left) {
        return x.at(0, step, 2, left);
    }

    // ---- promise 1

    static void newHasNothing() {
        says(1, "All as at first; no BUYERS.");
        NinePots x = new NinePots();
        for (int k = 1; k <= 5; k++) {
            due(x.told(k), 0);
        }
        int[] counts = {0, 0, 0, 6, 9, 0, 0, 0, 0, 0, 1};
        for (int what = 0; what < counts.length; what++) {
            due(x.count(what), counts[what]);
        }
        due(x.check(0), 0);
        due(x.text(0), -10);
        due(x.text(1), -10);
        due(x.ofBuyer(0, 0), BEYOND);
        due(x.trace(0), NONE);
        due(x.restore(), NONE);
        for (int sheet = 0; sheet < 4; sheet++) {
            due(x.by(sheet, 0), NONE);
        }
        due(x.image(), 1);
    }

    static void newIsApartFromOthers() {
        says(1, "All as at first; no BUYERS.");
        State.FULL.made();
        newHasNothing();
        says(1, "All as at first; no BUYERS.");
        NinePots x = new NinePots();
        NinePots y = new NinePots();
        x.buyer(0, 1, 1);
        x.coins(0, 9999);
        x.set(1, 12);
        due(y.count(1), 0);
        due(y.coins(0, 1), 10);
        due(y.count(3), 6);
    }

    // ---- promise 2

    static void coinsAtFirst() {
        says(2, "STEPS 0 to 9 have COINS (1 to 9999; at first 10 times (the STEP and 1)).");
        NinePots x = new NinePots();
        for (int step = 0; step <= 9; step++) {
            due(x.coins(step, 1), 10 * (step + 1));
        }
        due(x.coins(-1, 1), BEYOND);
        due(x.coins(10, 1), BEYOND);
    }

    static void coinsFromLeastToMost() {
        says(2, "COINS of a STEP become v: what they were.");
        NinePots x = new NinePots();
        for (int step = 0; step <= 9; step += 9) {
            due(x.coins(step, 1), 10 * (step + 1));
            due(x.coins(step, 0), BEYOND);
            due(x.coins(step, 9999), 1);
            due(x.coins(step, 10000), BEYOND);
            due(x.coins(step, 9999), 9999);
            due(x.coins(step, 2), 9999);
        }
        due(x.coins(8, 1), 90);
        due(x.coins(1, 1), 20);
    }

    // ---- promise 3

    private static void setsFromLeastToMost(int what, int first, int least, int most) {
        NinePots x = new NinePots();
        due(x.set(what, least), first);
        due(x.set(what, least - 1), BEYOND);
        due(x.set(what, most), least);
        due(x.set(what, most + 1), BEYOND);
        due(x.set(what, least), most);
        if (what < 5) {
            due(x.count(2 + what), least);
        }
    }

    static void setLast() {
        says(3, "LAST is a STEP (0 at first).");
        setsFromLeastToMost(0, 0, 0, 9);
    }

    static void setName() {
        says(3, "NAME is 0 to 12 (6 at first).");
        setsFromLeastToMost(1, 6, 0, 12);
    }

    static void setMakes() {
        says(3, "MAKES (0 to 20; 9 at first)");
        setsFromLeastToMost(2, 9, 0, 20);
    }

    static void setKept() {
        says(3, "KEPT (0 to 60; 0 at first)");
        setsFromLeastToMost(3, 0, 0, 60);
    }

    static void setPurse() {
        says(3, "PURSE (0 at first; held within -99999999 and 99999999)");
        setsFromLeastToMost(4, 0, -99999999, 99999999);
    }

    static void setPains() {
        says(3, "PAINS (0 to 999 a pot that is made; 0 at first)");
        setsFromLeastToMost(5, 0, 0, 999);
    }

    static void setNothingElse() {
        says(3, "LAST (what 0), NAME (1), MAKES (2), KEPT (3), PURSE (4), PAINS (5) becomes v: what it was. BEYOND.");
        NinePots x = new NinePots();
        due(x.set(-1, 0), BEYOND);
        due(x.set(6, 0), BEYOND);
        due(x.set(5, 1), 0);
        due(x.set(0, 1), 0);
        due(x.set(5, 1), 1);
        due(x.set(0, 1), 1);
    }

    // ---- promise 4

    static void buyersAtMostEight() {
        says(4, "BUYERS 0, 1, .. (at most 8)");
        NinePots x = new NinePots();
        for (int number = 0; number < 8; number++) {
            due(x.buyer(number % 7, 10 * number, 1 + number), number);
        }
        due(x.buyer(0, 1, 1), FULL);
        due(x.count(1), 8);
        for (int number = 0; number < 8; number++) {
            due(x.ofBuyer(number, 0), number % 7);
            due(x.ofBuyer(number, 1), 10 * number);
            due(x.ofBuyer(number, 2), 1 + number);
        }
        due(x.told(4), 1);
    }

    static void buyerBeyondIsAskedAheadOfFull() {
        says(4, "A BUYER: its number. BEYOND. FULL.");
        NinePots x = new NinePots();
        for (int number = 0; number < 8; number++) {
            x.buyer(0, 1, 1);
        }
        due(x.buyer(-1, 1, 1), BEYOND);
        due(x.buyer(7, 1, 1), BEYOND);
        due(x.buyer(0, -1, 1), BEYOND);
        due(x.buyer(0, 10000, 1), BEYOND);
        due(x.buyer(0, 1, 0), BEYOND);
        due(x.buyer(0, 1, 10), BEYOND);
        due(x.buyer(0, 9999, 9), FULL);
    }

    static void buyerFromLeastToMost() {
        says(4, "each WANTS (0 to 9999) and takes MOST (1 to 9) a year");
        NinePots x = new NinePots();
        due(x.buyer(0, 0, 1), 0);
        due(x.buyer(0, -1, 1), BEYOND);
        due(x.buyer(0, 9999, 1), 1);
        due(x.buyer(0, 10000, 1), BEYOND);
        due(x.buyer(0, 0, 9), 2);
        due(x.buyer(0, 0, 10), BEYOND);
        due(x.buyer(0, 0, 0), BEYOND);
        due(x.buyer(6, 0, 1), 3);
        due(x.buyer(7, 0, 1), BEYOND);
        due(x.buyer(-1, 0, 1), BEYOND);
        due(x.ofBuyer(0, 1), 0);
        due(x.ofBuyer(0, 2), 1);
        due(x.ofBuyer(1, 1), 9999);
        due(x.ofBuyer(2, 2), 9);
        due(x.ofBuyer(3, 0), 6);
        // A refused BUYER takes no number.
        due(x.count(1), 4);
        due(x.buyer(1, 0, 1), 4);
    }

    // ---- promise 5

    static void ofBuyerFromFirstToLast() {
        says(5, "Of a BUYER: 0 KIND, 1 WANTS, 2 MOST, 3 HAS. BEYOND.");
        NinePots x = new NinePots();
        for (int number = 0; number < 8; number++) {
            due(x.ofBuyer(number, 0), BEYOND);
            x.buyer(5, 33, 4);
            x.has(number, 1000 + number);
            due(x.ofBuyer(number, 0), 5);
            due(x.ofBuyer(number, 1), 33);
            due(x.ofBuyer(number, 2), 4);
            due(x.ofBuyer(number, 3), 1000 + number);
            due(x.ofBuyer(number, -1), BEYOND);
            due(x.ofBuyer(number, 4), BEYOND);
        }
        due(x.ofBuyer(8, 0), BEYOND);
        due(x.ofBuyer(-1, 0), BEYOND);
    }

    // ---- promise 6

    static void asKindsUnderOnly() {
        says(6, "1 RISER, 3 KEEPER, 5 SHOP under BUYER; 2 DEALER under RISER; 4 FRIEND under KEEPER; 6 CROWD under RISER");
        String[] are = {"0", "01", "012", "03", "034", "05", "016"};
        NinePots x = new NinePots();
        for (int kind = 0; kind < 7; kind++) {
            x.buyer(kind, 0, 9 - kind);
            for (int other = 0; other < 7; other++) {
                due(x.as(kind, other), are[kind].indexOf('0' + other) >= 0 ? 9 - kind : KIND);
            }
            due(x.as(kind, -1), BEYOND);
            due(x.as(kind, 7), BEYOND);
            due(x.as(kind + 1, 0), BEYOND);
        }
    }

    // ---- promise 7

    static void hasFromNoneToMost() {
        says(7, "A BUYER HAS v (0 to 9999): what it had. BEYOND.");
        NinePots x = new NinePots();
        due(x.has(0, 0), BEYOND);
        x.buyer(0, 1, 1);
        due(x.ofBuyer(0, 3), 0);
        due(x.has(0, 9999), 0);
        due(x.has(0, 10000), BEYOND);
        due(x.ofBuyer(0, 3), 9999);
        due(x.has(0, 0), 9999);
        due(x.has(0, -1), BEYOND);
        due(x.ofBuyer(0, 3), 0);
        due(x.has(1, 0), BEYOND);
        due(x.has(-1, 0), BEYOND);
    }

    // ---- promise 8

    private static void fill(NinePots x, int bits, int... numbers) {
        x.sheet(0, bits, numbers.length);
        for (int i = 0; i < numbers.length; i++) {
            x.put(0, i, numbers[i]);
        }
    }

    private static int come(int bits, int... numbers) {
        NinePots x = new NinePots();
        fill(x, bits, numbers);
        int came = x.buyers(0);
        due(x.count(1), came);
        return came;
    }

    static void buyersOfAnEmptySheet() {
        says(8, "BUYERS from a SHEET: threes (KIND, WANTS, MOST), from number 0 on");
        for (int bits = 8; bits <= 32; bits *= 2) {
            due(come(bits), 0);
        }
        NinePots x = new NinePots();
        x.sheet(0, 8, 0);
        x.buyers(0);
        due(x.told(2), 0);
    }

    static void buyersThatArentWhole() {
        says(8, "up to the first that isn't as told, or isn't whole, or has no room: how many came.");
        due(come(8, 1), 0);
        due(come(8, 1, 2), 0);
        due(come(8, 1, 2, 3), 1);
        due(come(8, 1, 2, 3, 4), 1);
        due(come(8, 1, 2, 3, 4, 5), 1);
        due(come(8, 1, 2, 3, 4, 5, 6), 2);
    }

    static void buyersThatArentAsTold() {
        says(8, "up to the first that isn't as told, or isn't whole, or has no room: how many came.");
        int[][] letIn = {{0, 0, 1}, {6, 9999, 9}, {0, 9999, 1}, {6, 0, 9}};
        for (int[] three : letIn) {
            due(come(16, 0, 1, 1, three[0], three[1], three[2], 0, 1, 1), 3);
        }
        int[][] spoilt = {{-1, 0, 1}, {7, 0, 1}, {0, -1, 1}, {0, 10000, 1}, {0, 0, 0}, {0, 0, 10}, {0, 0, -1}};
        for (int[] three : spoilt) {
            due(come(16, three[0], three[1], three[2], 0, 1, 1), 0);
            due(come(32, 0, 1, 1, three[0], three[1], three[2], 0, 1, 1), 1);
        }
        // A number of 8 bits that looks like 200 is -56.
        due(come(8, 0, 127, 1), 1);
        due(come(8, 0, 200, 1), 0);
        due(come(16, 0, 200, 1), 1);
    }

    static void buyersWithoutRoom() {
        says(8, "up to the first that isn't as told, or isn't whole, or has no room: how many came.");
        for (int there = 0; there <= 8; there++) {
            NinePots x = new NinePots();
            for (int i = 0; i < there; i++) {
                x.buyer(0, 1, 1);
            }
            // 40 numbers are 13 threes and one that isn't whole.
            x.sheet(0, 8, 40);
            for (int i = 0; i < 40; i++) {
                x.put(0, i, 1 + i / 3 % 6);
            }
            due(x.buyers(0), 8 - there);
            due(x.count(1), 8);
            for (int i = there; i < 8; i++) {
                due(x.ofBuyer(i, 0), 1 + (i - there) % 6);
                due(x.ofBuyer(i, 3), 0);
            }
            due(x.buyers(0), 0);
            // No room is no ERROR here.
            due(x.told(4), 0);
        }
    }

    static void buyersOfAMissingSheet() {
        says(8, "BEYOND: no such SHEET. NONE: it is missing.");
        NinePots x = new NinePots();
        due(x.buyers(-1), BEYOND);
        due(x.buyers(4), BEYOND);
        for (int sheet = 0; sheet < 4; sheet++) {
            due(x.buyers(sheet), NONE);
            x.sheet(sheet, 8, 0);
            due(x.buyers(sheet), 0);
            x.sheet(sheet, 0, 0);
            due(x.buyers(sheet), NONE);
        }
    }

    // ---- promise 9: WORTH

    static void worthOfARiserAboveLast() {
        says(9, "RISER: as BUYER, and a fifth of that more, if the STEP is above LAST.");
        NinePots x = one(RISER, 50, 9);
        for (int last = 0; last <= 9; last++) {
            x.set(0, last);
            for (int step = 0; step <= 9; step++) {
                due(worth(x, step), step > last ? 60 : 50);
            }
        }
        int[] plain = {0, 1, 4, 5, 6, 9, 10, 9999};
        int[] risen = {0, 1, 4, 6, 7, 10, 12, 11998};
        for (int i = 0; i < plain.length; i++) {
            NinePots y = one(RISER, plain[i], 1);
            due(worth(y, 1), risen[i]);
            due(worth(y, 0), plain[i]);
        }
    }

    static void worthOfADealerBelowNought() {
        says(9, "DEALER: as RISER, less 3 times HAS (perhaps below 0).");
        NinePots x = one(DEALER, 5, 9);
        int[] has = {0, 1, 2, 3, 9999};
        int[] level = {5, 2, -1, -4, 5 - 29997};
        for (int i = 0; i < has.length; i++) {
            x.has(0, has[i]);
            due(worth(x, 0), level[i]);
            due(worth(x, 1), level[i] + 1);
        }
        // The least DUE is above a WORTH below 1.
        x.coins(0, 1);
        x.has(0, 1);
        due(buys(x, 0, 99), 9);
        x.has(0, 2);
        due(buys(x, 0, 99), 0);
    }

    static void worthOfAKeeperWithSix() {
        says(9, "KEEPER: as BUYER, 0 if it HAS 6 or more. FRIEND: as KEEPER, twice that.");
        int[] has = {0, 5, 6, 7, 9999};
        for (int i = 0; i < has.length; i++) {
            NinePots keeper = one(KEEPER, 77, 9);
            keeper.has(0, has[i]);
            due(worth(keeper, 0), i < 2 ? 77 : 0);
            due(worth(keeper, 9), i < 2 ? 77 : 0);
            NinePots friend = one(FRIEND, 77, 9);
            friend.has(0, has[i]);
            due(worth(friend, 0), i < 2 ? 154 : 0);
        }
    }

    static void worthOfAShopIsCut() {
        says(9, "SHOP: half of BUYER's.");
        int[] wants = {0, 1, 2, 3, 9999};
        int[] worths = {0, 0, 1, 1, 4999};
        for (int i = 0; i < wants.length; i++) {
            due(worth(one(SHOP, wants[i], 1), 9), worths[i]);
        }
    }

    static void worthOfACrowdByName() {
        says(9, "CROWD: as RISER, and 5 times NAME.");
        NinePots x = one(CROWD, 50, 1);
        int[] names = {0, 1, 12};
        for (int name : names) {
            x.set(1, name);
            due(worth(x, 0), 50 + 5 * name);
            // The fifth is of BUYER's WORTH alone.
            due(worth(x, 1), 60 + 5 * name);
        }
    }

    static void worthIsHeldAheadOfKinds() {
        says(9, "held within 0 to 99999; without a TEXT as that of w+n*5-h would give.");
        int[] most = {99999, 119998, 119998, 99999, 199998, 49999, 120028};
        int[] least = {0, 0, 0, 0, 0, 0, 30};
        for (int kind = 0; kind < 7; kind++) {
            NinePots x = one(kind, 9999, 1);
            Checks.read(x, 0, "w*11");
            due(worth(x, 1), most[kind]);
            Checks.read(x, 0, "0-w");
            due(worth(x, 1), least[kind]);
        }
    }

    static void worthWithoutAText() {
        says(9, "BUYER: what WORTH (its TEXT) gives.");
        NinePots x = new NinePots();
        x.buyer(0, 20, 1);
        x.set(1, 0);
        x.has(0, 19);
        due(worth(x, 0), 1);
        x.has(0, 20);
        due(worth(x, 0), 0);
        x.has(0, 21);
        due(worth(x, 0), 0);
        x.set(1, 12);
        due(worth(x, 0), 59);
        // l are COINS of LAST, not those of the STEP.
        Checks.read(x, 0, "l");
        x.set(0, 9);
        x.coins(9, 9999);
        due(worth(x, 0), 9999);
        x.set(0, 0);
        x.coins(0, 1);
        due(worth(x, 9), 1);
    }

    // ---- promise 9: DUE

    static void dueOfEachKindIsCut() {
        says(9, "DUE of one pot at a STEP: its COINS; FRIEND: half of them; SHOP: two thirds (2 times, by 3).");
        int[] coins = {1, 2, 3, 4, 5, 9999};
        int[] friend = {0, 1, 1, 2, 2, 4999};
        int[] shop = {0, 1, 2, 2, 3, 6666};
        for (int kind = 0; kind < 7; kind++) {
            NinePots x = one(kind, 1, 1);
            for (int i = 0; i < coins.length; i++) {
                x.coins(9, coins[i]);
                due(x.at(0, 9, 1, 0), kind == FRIEND ? friend[i] : kind == SHOP ? shop[i] : coins[i]);
            }
        }
    }

    // ---- promise 9: BUYS

    static void buysIfDueIsNotAboveWorth() {
        says(9, "none, if DUE is above WORTH (of what it HAS ahead of the year); else MOST");
        // The most COINS that are paid, and the least that aren't, at LAST, for what a BUYER finds worth 50.
        int[] paid = {50, 50, 50 - 15, 50, 201, 38, 80};
        for (int kind = 0; kind < 7; kind++) {
            NinePots x = one(kind, 50, 3);
            x.has(0, kind == DEALER ? 5 : 0);
            x.coins(0, paid[kind]);
            due(buys(x, 0, 99), 3);
            x.coins(0, paid[kind] + 1);
            due(buys(x, 0, 99), 0);
        }
        // Above LAST a fifth more is paid by three KINDS.
        int[] risen = {50, 60, 60 - 15, 50, 201, 38, 90};
        for (int kind = 0; kind < 7; kind++) {
            NinePots x = one(kind, 50, 3);
            x.has(0, kind == DEALER ? 5 : 0);
            x.coins(1, risen[kind]);
            due(buys(x, 1, 99), kind == DEALER ? 6 : 3);
            x.coins(1, risen[kind] + 1);
            due(buys(x, 1, 99), 0);
        }
    }

    static void buysMost() {
        says(9, "else MOST (DEALER: twice that, if the STEP is above LAST;");
        for (int most = 1; most <= 9; most += 8) {
            for (int kind = 0; kind < 7; kind++) {
                NinePots x = one(kind, 9999, most);
                boolean keeps = kind == KEEPER || kind == FRIEND;
                int level = keeps ? Math.min(6, most) : most;
                x.set(0, 4);
                due(buys(x, 3, 99), level);
                due(buys(x, 4, 99), level);
                due(buys(x, 5, 99), kind == DEALER ? 2 * most : level);
            }
        }
    }

    static void buysTillItHasSix() {
        says(9, "KEEPER and under: no more than till it HAS 6)");
        for (int kind = KEEPER; kind <= FRIEND; kind++) {
            for (int has = 0; has <= 7; has++) {
                NinePots x = one(kind, 9999, 4);
                x.has(0, has);
                due(buys(x, 0, 99), Math.max(0, Math.min(4, 6 - has)));
            }
        }
        // With COINS of 1 nothing is DUE of a FRIEND, which is no more than a WORTH of 0.
        for (int has : new int[] {6, 7, 9999}) {
            NinePots x = one(FRIEND, 9999, 9);
            x.coins(0, 1);
            x.has(0, has);
            due(x.at(0, 0, 0, 0), 0);
            due(x.at(0, 0, 1, 0), 0);
            due(buys(x, 0, 99), 0);
        }
    }

    static void buysNoMoreThanAreLeft() {
        says(9, "no more than are left.");
        for (int kind = 0; kind < 7; kind++) {
            NinePots x = one(kind, 9999, 5);
            int most = kind == DEALER ? 10 : 5;
            due(buys(x, 9, 0), 0);
            due(buys(x, 9, 1), 1);
            due(buys(x, 9, most - 1), most - 1);
            due(buys(x, 9, most), most);
            due(buys(x, 9, most + 1), most);
            due(buys(x, 9, 99), most);
        }
    }

    static void atLeftByAnyWhat() {
        says(9, "2 what it BUYS if so many (0 to 99, by any what) are left. BEYOND.");
        NinePots x = one(0, 50, 9);
        int[] answers = {50, 10, 9};
        for (int what = 0; what < 3; what++) {
            due(x.at(0, 0, what, -1), BEYOND);
            due(x.at(0, 0, what, 100), BEYOND);
            due(x.at(0, 0, what, 99), answers[what]);
            due(x.at(0, 0, what, 0), what == 2 ? 0 : answers[what]);
            due(x.at(0, -1, what, 0), BEYOND);
            due(x.at(0, 10, what, 0), BEYOND);
            due(x.at(1, 0, what, 0), BEYOND);
        }
        due(x.at(0, 9, 1, 0), 100);
        due(x.at(0, 0, 3, 0), BEYOND);
        due(x.at(0, 0, -1, 0), BEYOND);
    }
}
