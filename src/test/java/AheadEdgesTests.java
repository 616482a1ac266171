/** Promises 16 to 26 at the edges that the document names: what is ahead. */
public final class AheadEdgesTests {
    private static final int BEYOND = Checks.BEYOND;
    private static final int NONE = Checks.NONE;
    private static final int STATE = Checks.STATE;
    private static final int DEALER = 2;
    private static final int KEEPER = 3;
    private static final int FRIEND = 4;

    public static void main(String[] args) throws Exception {
        Sentence.runAll(AheadEdgesTests.class, 16, 26);
    }

    private static void says(int promise, String words) {
        Sentence.says(promise, words);
    }

    private static void due(long got, long want) {
        Sentence.due(got, want);
    }

    /** BUYERS who buy all that they take, at any STEP. */
    private static NinePots eager(int... mosts) {
        NinePots x = new NinePots();
        Checks.read(x, 0, "9999");
        for (int most : mosts) {
            x.buyer(0, 0, most);
        }
        return x;
    }

    /** All STEPS have the same COINS. */
    private static void level(NinePots x, int coins) {
        for (int step = 0; step < 10; step++) {
            x.coins(step, coins);
        }
    }

    /** To YEAR 199, and all else as at first. */
    private static void goTo199(NinePots x) {
        int[] settings = {x.count(2), x.count(3), x.count(4), x.count(5), x.count(6)};
        int has = x.ofBuyer(0, 3);
        for (int i = 0; i < 6; i++) {
            x.life(30, 0);
        }
        x.life(19, 0);
        for (int what = 0; what < 5; what++) {
            x.set(what, settings[what]);
        }
        if (has >= 0) {
            x.has(0, has);
        }
        due(x.count(0), 199);
    }

    // ---- promise 16

    static void thenOfNoYears() {
        says(16, "AHEAD by n (0 to 40) YEARS at one STEP");
        NinePots x = eager(2);
        x.set(0, 3);
        x.set(1, 11);
        x.set(3, 7);
        x.set(4, -5);
        x.has(0, 4);
        int[] answers = {-5, 11, 7, -5 + 140, 4};
        for (int what = 0; what <= 4; what++) {
            due(x.then(0, 0, what), answers[what]);
            due(x.then(0, 9, what), answers[what]);
        }
        due(x.then(-1, 0, 0), BEYOND);
    }

    static void thenOfFortyYears() {
        says(16, "AHEAD by n (0 to 40) YEARS at one STEP");
        NinePots x = eager(9);
        due(x.then(40, 9, 0), 40 * 900);
        due(x.then(40, 0, 4), 360);
        due(x.then(39, 9, 0), 39 * 900);
        due(x.then(41, 9, 0), BEYOND);
        due(x.then(40, 10, 0), BEYOND);
        due(x.then(40, -1, 0), BEYOND);
        due(x.then(40, 0, 5), BEYOND);
        due(x.then(40, 0, -1), BEYOND);
        due(x.count(0), 0);
        due(x.count(6), 0);
        due(x.ofBuyer(0, 3), 0);
    }

    static void thenBeyondYear199() {
        says(16, "as if YEARS at these went by, nothing being kept back (beyond YEAR 199, too).");
        NinePots x = eager(9);
        NinePots y = eager(9);
        goTo199(y);
        for (int what = 0; what <= 4; what++) {
            due(y.then(1, 4, what), x.then(1, 4, what));
            due(y.then(40, 4, what), x.then(40, 4, what));
        }
        due(y.count(0), 199);
    }

    static void endsAreCutAndNotHeld() {
        says(16, "ENDS: PURSE then, and KEPT then times COINS of LAST by 2.");
        NinePots x = new NinePots();
        x.coins(0, 1);
        int[] kept = {0, 1, 2, 3, 59, 60};
        int[] worth = {0, 0, 1, 1, 29, 30};
        for (int i = 0; i < kept.length; i++) {
            x.set(3, kept[i]);
            due(x.then(0, 0, 3), worth[i]);
        }
        // 7 and a half are cut ahead of PURSE: cut together with it they would leave -3.
        x.set(3, 15);
        x.set(4, -11);
        due(x.then(0, 0, 3), -4);
        x.set(3, 60);
        x.coins(0, 9999);
        x.set(4, 99999999);
        due(x.then(0, 0, 3), 99999999 + 299970);
        x.set(4, -99999999);
        due(x.then(0, 0, 3), -99999999 + 299970);
        // COINS of LAST then, which is the STEP.
        x.coins(9, 7);
        due(x.then(1, 9, 3), -99999999 + 210);
    }

    static void thenIsHeldAsYearsAre() {
        says(16, "AHEAD by a row of STEPS: as if YEARS at these went by");
        NinePots x = eager(9);
        x.set(4, 99999998);
        x.has(0, 9995);
        due(x.then(1, 0, 0), 99999999);
        due(x.then(40, 0, 0), 99999999);
        due(x.then(1, 0, 4), 9999);
        due(x.then(5, 0, 1), 11);
        due(x.then(6, 0, 1), 12);
        due(x.then(7, 0, 1), 12);
        NinePots y = new NinePots();
        due(y.then(6, 0, 1), 0);
        due(y.then(7, 0, 1), 0);
        due(y.then(6, 0, 2), 54);
        due(y.then(7, 0, 2), 60);
        due(y.then(8, 0, 2), 60);
    }

    static void whatAllBuyersHave() {
        says(16, "4 what all BUYERS HAVE.");
        NinePots x = new NinePots();
        due(x.then(40, 0, 4), 0);
        for (int i = 0; i < 8; i++) {
            x.buyer(0, 0, 1);
            x.has(i, 9999);
        }
        due(x.then(0, 0, 4), 8 * 9999);
        due(x.then(40, 0, 4), 8 * 9999);
    }

    // ---- promise 17

    private static int by(int bits, int what, int... numbers) {
        NinePots x = eager(1);
        x.sheet(2, bits, numbers.length);
        for (int i = 0; i < numbers.length; i++) {
            x.put(2, i, numbers[i]);
        }
        return x.by(2, what);
    }

    static void byAnEmptySheet() {
        says(17, "AHEAD by a SHEET's numbers as STEPS, up to the first that is none");
        for (int bits = 8; bits <= 32; bits *= 2) {
            due(by(bits, 0), 0);
            due(by(bits, 1), 6);
            due(by(bits, 2), 0);
            due(by(bits, 3), 0);
            due(by(bits, 4), 0);
        }
    }

    static void byUpToTheFirstThatIsNone() {
        says(17, "AHEAD by a SHEET's numbers as STEPS, up to the first that is none");
        for (int bits = 8; bits <= 32; bits *= 2) {
            due(by(bits, 0, 0, 9, 9), 210);
            due(by(bits, 0, 9, 10, 9), 100);
            due(by(bits, 0, 9, -1, 9), 100);
            due(by(bits, 0, -1, 9), 0);
            due(by(bits, 0, 10, 9), 0);
            due(by(bits, 0, 9, 9, 127), 200);
        }
        // 8 bits leave 9 of 256 and 9, 16 bits don't.
        due(by(8, 0, 9, 256 + 9), 200);
        due(by(16, 0, 9, 256 + 9), 100);
        due(by(16, 0, 9, 65536 + 9), 200);
        due(by(32, 0, 9, 65536 + 9), 100);
    }

    static void byForty() {
        says(17, "AHEAD by a SHEET's numbers as STEPS, up to the first that is none");
        int[] steps = new int[40];
        int sum = 0;
        for (int i = 0; i < 40; i++) {
            steps[i] = i % 10;
            sum += 10 * (steps[i] + 1);
        }
        due(by(8, 0, steps), sum);
        due(by(32, 4, steps), 40);
        NinePots x = eager(1);
        x.sheet(0, 8, 40);
        goTo199(x);
        due(x.by(0, 0), 400);
        due(x.count(0), 199);
    }

    static void byKeepsNothingBack() {
        says(17, "AHEAD by a row of STEPS: as if YEARS at these went by, nothing being kept back");
        NinePots x = eager(9);
        x.sheet(0, 8, 3);
        due(x.by(0, 0), 270);
        due(x.by(0, 2), 0);
        due(x.by(0, 1), 9);
    }

    static void byAMissingSheet() {
        says(17, "BEYOND: SHEET, what. NONE: it is missing.");
        NinePots x = new NinePots();
        for (int sheet = 0; sheet < 4; sheet++) {
            due(x.by(sheet, 0), NONE);
            due(x.by(sheet, 4), NONE);
            due(x.by(sheet, 5), BEYOND);
            due(x.by(sheet, -1), BEYOND);
            x.sheet(sheet, 8, 0);
            due(x.by(sheet, 4), 0);
            due(x.by(sheet, 5), BEYOND);
        }
        due(x.by(-1, 0), BEYOND);
        due(x.by(4, 0), BEYOND);
    }

    // ---- promise 18

    private static void rowIs(NinePots x, boolean never, int... steps) {
        int n = steps.length;
        for (int i = 0; i < n; i++) {
            due(never ? x.never(n, i) : x.best(n, i), steps[i]);
        }
        due(never ? x.never(n, n) : x.best(n, n), BEYOND);
        due(never ? x.never(n, -2) : x.best(n, -2), BEYOND);
    }

    static void bestOfOneToThree() {
        says(18, "BEST by n (1 to 3): the row of n STEPS by which ENDS AHEAD is most; of several the first.");
        NinePots x = eager(9);
        rowIs(x, false, 9);
        rowIs(x, false, 9, 9);
        rowIs(x, false, 9, 9, 9);
        for (int n = 1; n <= 3; n++) {
            due(x.best(n, -1), 900 * n);
        }
        due(x.best(0, 0), BEYOND);
        due(x.best(0, -1), BEYOND);
        due(x.best(4, 0), BEYOND);
        due(x.best(4, -1), BEYOND);
    }

    static void bestOfSeveralTheFirst() {
        says(18, "BEST by n (1 to 3): the row of n STEPS by which ENDS AHEAD is most; of several the first.");
        NinePots x = new NinePots();
        level(x, 7);
        rowIs(x, false, 0);
        rowIs(x, false, 0, 0);
        rowIs(x, false, 0, 0, 0);
        // Only the last STEP counts, and 4 is as good as 8.
        x.coins(4, 9);
        x.coins(8, 9);
        rowIs(x, false, 4);
        rowIs(x, false, 0, 4);
        rowIs(x, false, 0, 0, 4);
        // Where all is held, all rows are as good.
        NinePots y = eager(9);
        y.set(4, 99999999);
        rowIs(y, false, 0, 0, 0);
        due(y.best(3, -1), 99999999);
        // Below 0, too.
        NinePots z = new NinePots();
        z.set(2, 20);
        z.set(5, 999);
        z.set(4, -99999999);
        level(z, 1);
        due(z.best(1, -1), -99999999 + 10);
        rowIs(z, false, 0);
        z.coins(9, 3);
        due(z.best(1, -1), -99999999 + 30);
        rowIs(z, false, 9);
    }

    static void bestAt199() {
        says(18, "as if YEARS at these went by, nothing being kept back (beyond YEAR 199, too).");
        NinePots x = eager(9);
        goTo199(x);
        rowIs(x, false, 9, 9, 9);
        due(x.best(3, -1), 2700);
        rowIs(x, true, 9, 9, 9);
        due(x.costs(3), 0);
        due(x.raise(2), 0);
    }

    // ---- promise 19

    static void neverBelowLast() {
        says(19, "NEVER lower: BEST of those rows in which no STEP is below the one ahead of it (LAST ahead of the first).");
        // Every STEP brings less than the one below it: NEVER stays at LAST.
        NinePots x = eager(9);
        for (int step = 0; step < 10; step++) {
            x.coins(step, 100 - 10 * step);
        }
        for (int last = 0; last <= 9; last++) {
            x.set(0, last);
            rowIs(x, true, last);
            rowIs(x, true, last, last);
            rowIs(x, true, last, last, last);
            due(x.never(3, -1), 27 * (100 - 10 * last));
            rowIs(x, false, 0, 0, 0);
        }
        due(x.never(0, 0), BEYOND);
        due(x.never(4, 0), BEYOND);
    }

    static void neverBelowTheOneAheadOfIt() {
        says(19, "NEVER lower: BEST of those rows in which no STEP is below the one ahead of it (LAST ahead of the first).");
        // STEP 5 is best while NAME is 6, STEP 2 with any other: it can't follow STEP 5.
        NinePots x = new NinePots();
        Checks.read(x, 0, "(n=6)*60+!(n=6)*30");
        x.buyer(0, 0, 9);
        level(x, 1);
        x.coins(5, 60);
        x.coins(2, 30);
        rowIs(x, false, 5, 2);
        due(x.best(2, -1), 810);
        // 9 that stand at STEP 5 count as much as 9 that are sold at STEP 2.
        due(x.never(2, 0), 5);
        due(x.never(2, 1), 5);
        due(x.never(2, -1), 540 + 270);
        x.coins(5, 59);
        due(x.best(2, -1), 531 + 270);
        due(x.never(2, -1), 531 + 265);
        rowIs(x, true, 5, 5);
    }

    static void neverOfSeveralTheFirst() {
        says(19, "NEVER lower: BEST of those rows in which no STEP is below the one ahead of it (LAST ahead of the first).");
        NinePots x = new NinePots();
        level(x, 7);
        for (int last = 0; last <= 9; last++) {
            x.set(0, last);
            rowIs(x, true, last, last, last);
            rowIs(x, true, last, last);
            rowIs(x, true, last);
        }
        x.set(0, 3);
        x.coins(6, 9);
        x.coins(8, 9);
        rowIs(x, true, 3, 3, 6);
    }

    // ---- promise 20

    static void costsOfOneToThree() {
        says(20, "COSTS of never lowering by n: ENDS by BEST, less that by NEVER.");
        NinePots x = eager(9);
        for (int step = 0; step < 10; step++) {
            x.coins(step, 100 - 10 * step);
        }
        for (int last = 0; last <= 9; last += 3) {
            x.set(0, last);
            for (int n = 1; n <= 3; n++) {
                due(x.costs(n), 9 * n * 10 * last);
            }
        }
        due(x.costs(0), BEYOND);
        due(x.costs(4), BEYOND);
        // With LAST 0 one STEP can't be lower.
        x.set(0, 0);
        due(x.costs(1), 0);
    }

    // ---- promise 21

    /** With k KEPT, none made: 59 times (k and 1) at STEP 0, 60 times k at STEP 1: more from 60 on. */
    private static NinePots raisesAt60() {
        NinePots x = new NinePots();
        x.set(2, 0);
        x.buyer(0, 88, 1);
        level(x, 1);
        x.coins(0, 118);
        x.coins(1, 120);
        return x;
    }

    static void raiseFromNoneToSixty() {
        says(21, "RAISE by n: the least KEPT (0 to 60, all else as now) with which BEST begins with a STEP above LAST.");
        NinePots x = eager(9);
        due(x.raise(1), 0);
        due(x.raise(2), 0);
        due(x.raise(0), BEYOND);
        due(x.raise(3), BEYOND);
        NinePots y = raisesAt60();
        due(y.raise(1), 60);
        // As now is not as KEPT is now.
        y.set(3, 60);
        due(y.raise(1), 60);
        due(y.count(5), 60);
        // At 119 it takes 118 KEPT.
        y.coins(1, 119);
        due(y.raise(1), NONE);
        due(y.count(5), 60);
    }

    static void raiseAboveTheLastStep() {
        says(21, "RAISE by n (1, 2). BEYOND. NONE.");
        NinePots x = eager(9);
        x.set(0, 8);
        due(x.raise(1), 0);
        due(x.raise(2), 0);
        x.set(0, 9);
        due(x.raise(1), NONE);
        due(x.raise(2), NONE);
        due(x.raise(3), BEYOND);
        due(x.told(2), 2);
        // Of several the first: LAST itself, which isn't above it.
        NinePots y = new NinePots();
        level(y, 5);
        due(y.raise(1), NONE);
        // By 2, a row begins with 0, though it ends with 9.
        NinePots z = new NinePots();
        due(z.raise(1), 0);
        due(z.raise(2), NONE);
    }

    static void raiseLooksAtLowerStepsToo() {
        says(21, "with which BEST begins with a STEP above LAST.");
        // From LAST on, 9 would be best; below it, 0 brings more.
        NinePots x = eager(9);
        x.coins(0, 9999);
        x.set(0, 4);
        due(x.never(1, 0), 9);
        due(x.best(1, 0), 0);
        due(x.raise(1), NONE);
        due(x.raise(2), NONE);
    }

    static void raiseRefusedLeavesKept() {
        says(21, "RAISE by n (1, 2). BEYOND. NONE.");
        Sentence.refusedBehind(x -> {
            x.ask("set", 0, 9);
            x.ask("set", 3, 17);
        }, NONE, "raise", 2);
        Sentence.refusedBehind(x -> {
            x.ask("set", 3, 17);
            for (int step = 0; step < 10; step++) {
                x.ask("coins", step, 5);
            }
        }, NONE, "raise", 1);
    }

    // ---- promise 22

    /** One BUYER of one pot: only if none stands is NAME 7, and a second pot worth its COINS. */
    private static NinePots wantsNoneToStand(int kept) {
        NinePots x = new NinePots();
        x.buyer(0, 20, 1);
        x.set(3, kept);
        return x;
    }

    static void backUpToTwenty() {
        says(22, "how many to keep back (0 to 20) in a YEAR at it, then n YEARS at it with none kept back");
        due(wantsNoneToStand(0).back(1, 4), 8);
        due(wantsNoneToStand(11).back(1, 4), 19);
        due(wantsNoneToStand(12).back(1, 4), 20);
        // 21 would have to be kept back.
        due(wantsNoneToStand(13).back(1, 4), 0);
        NinePots one = wantsNoneToStand(0);
        one.set(2, 1);
        due(one.back(1, 4), 0);
    }

    static void backOfSeveralTheLeast() {
        says(22, "by which ENDS is most; of several the least.");
        NinePots x = new NinePots();
        for (int n = 0; n <= 20; n += 10) {
            due(x.back(n, 0), 0);
            due(x.back(n, 9), 0);
        }
        // A FRIEND pays 5 for what counts 5 and a half: best keep all 8; 9 to 20 do the same.
        NinePots y = new NinePots();
        y.buyer(FRIEND, 50, 9);
        y.set(2, 8);
        y.coins(0, 11);
        due(y.back(0, 0), 8);
        // All pots are sold for more than they count: none is kept back.
        NinePots z = eager(9);
        due(z.back(0, 4), 0);
        due(z.back(20, 4), 0);
    }

    static void backByNoYearsAndTwenty() {
        says(22, "BACK by n (0 to 20) at a STEP. BEYOND.");
        NinePots x = wantsNoneToStand(0);
        due(x.back(0, 4), 0);
        due(x.back(20, 4), 8);
        due(x.back(-1, 4), BEYOND);
        due(x.back(21, 4), BEYOND);
        due(x.back(1, -1), BEYOND);
        due(x.back(1, 10), BEYOND);
        due(x.count(5), 0);
        due(x.count(3), 6);
        goTo199(x);
        due(x.back(1, 4), 8);
    }

    // ---- promise 23

    static void whomOfSeveralTheLeast() {
        says(23, "is most; of several the least.");
        NinePots x = new NinePots();
        x.set(3, 1);
        x.buyer(0, 20, 1);
        due(x.whom(0, 0), 0);
        due(x.whom(40, 9), 0);
        for (int i = 1; i < 8; i++) {
            x.buyer(0, 20, 1);
        }
        due(x.whom(0, 0), 0);
        due(x.whom(40, 9), 0);
        // Number 6 and number 7 make a NAME by it.
        NinePots y = new NinePots();
        y.set(3, 1);
        Checks.read(y, 0, "w+n*5");
        for (int i = 0; i < 8; i++) {
            y.buyer(i < 6 ? 0 : KEEPER, 20, 1);
        }
        // 55 is due: NAME 7 makes it worth that.
        y.coins(4, 55);
        due(y.whom(1, 4), 6);
        due(y.whom(0, 4), 0);
    }

    static void whomTheLast() {
        says(23, "WHOM: the BUYER by whom, if one is GIVEN, ENDS by n YEARS at a STEP is most");
        NinePots x = new NinePots();
        x.set(3, 1);
        Checks.read(x, 0, "w+n*5");
        for (int i = 0; i < 8; i++) {
            x.buyer(i < 7 ? 0 : FRIEND, 20, 1);
        }
        x.coins(4, 55);
        due(x.whom(1, 4), 7);
        due(x.whom(40, 4), 7);
        // NAME is held: none brings more than another.
        x.set(1, 12);
        x.coins(4, 81);
        due(x.whom(1, 4), 0);
        due(x.count(5), 1);
        due(x.ofBuyer(7, 3), 0);
    }

    static void whomIsAskedInOrder() {
        says(23, "BEYOND. STATE: none is KEPT. NONE: there are no BUYERS.");
        NinePots x = new NinePots();
        due(x.whom(0, 0), STATE);
        due(x.whom(-1, 0), BEYOND);
        due(x.whom(41, 0), BEYOND);
        due(x.whom(0, -1), BEYOND);
        due(x.whom(0, 10), BEYOND);
        x.set(3, 1);
        due(x.whom(0, 0), NONE);
        due(x.whom(40, 9), NONE);
        due(x.whom(41, 9), BEYOND);
        x.buyer(0, 0, 1);
        due(x.whom(40, 9), 0);
        x.set(3, 0);
        due(x.whom(40, 9), STATE);
        Sentence.refusedBehind(y -> y.ask("set", 3, 60), NONE, "whom", 0, 0);
        Sentence.refusedBehind(y -> y.ask("buyer", 4, 1, 1), STATE, "whom", 40, 9);
    }

    static void whomHasMostAlready() {
        says(23, "GIVEN to a BUYER: one of KEPT; it HAS one more;");
        // One who HAS 9999 has no more: its WORTH stays, another's falls.
        NinePots x = new NinePots();
        Checks.read(x, 0, "w-h");
        x.buyer(0, 10, 1);
        x.buyer(0, 9999, 1);
        x.has(1, 9999);
        x.set(3, 1);
        x.coins(0, 10);
        due(x.whom(1, 0), 1);
    }

    // ---- promise 24

    static void moreIsHeld() {
        says(24, "MORE by d (-20 to 20; MAKES then held within 0 to 20)");
        // No BUYERS: ENDS by one year at STEP 0 are 5 times MAKES.
        NinePots x = new NinePots();
        int[] makes = {0, 1, 9, 19, 20};
        for (int now : makes) {
            x.set(2, now);
            for (int d : new int[] {-20, -19, -10, -9, -8, -1, 0, 1, 10, 11, 12, 19, 20}) {
                int then = Math.max(0, Math.min(20, now + d));
                due(x.more(d, 1, 0), 5 * (then - now));
            }
            due(x.count(4), now);
        }
        due(x.more(-21, 1, 0), BEYOND);
        due(x.more(21, 1, 0), BEYOND);
    }

    static void moreByNoYearsAndForty() {
        says(24, "MORE by d with n (0 to 40) YEARS at a STEP. BEYOND.");
        NinePots x = new NinePots();
        x.set(3, 10);
        due(x.more(20, 0, 9), 0);
        due(x.more(-20, 0, 9), 0);
        // KEPT is 60 by either behind 40 years; MAKES 0 leaves 10.
        due(x.more(1, 40, 0), 0);
        due(x.more(-20, 40, 0), 50 - 300);
        x.set(5, 999);
        due(x.more(1, 40, 0), -40 * 999);
        due(x.more(0, -1, 0), BEYOND);
        due(x.more(0, 41, 0), BEYOND);
        due(x.more(0, 0, -1), BEYOND);
        due(x.more(0, 0, 10), BEYOND);
    }

    // ---- promise 25

    static void restsFromOneToForty() {
        says(25, "behind how many YEARS at it (1 to 40) NAME and KEPT are as a year before for the first time.");
        // FAME 0, one pot more a year: KEPT stays as soon as it is 60.
        NinePots x = new NinePots();
        Checks.read(x, 1, "0");
        x.set(2, 1);
        int[] kept = {60, 59, 58, 22, 21, 20, 0};
        int[] years = {1, 2, 3, 39, 40, NONE, NONE};
        for (int i = 0; i < kept.length; i++) {
            x.set(3, kept[i]);
            due(x.rests(0), years[i]);
            due(x.rests(9), years[i]);
            due(x.count(5), kept[i]);
        }
        due(x.rests(-1), BEYOND);
        due(x.rests(10), BEYOND);
    }

    static void restsByBoth() {
        says(25, "NAME and KEPT are as a year before for the first time.");
        // Nothing made, none KEPT: NAME alone goes up, to 12.
        NinePots x = new NinePots();
        x.set(2, 0);
        due(x.rests(0), 7);
        x.set(1, 12);
        due(x.rests(0), 1);
        x.set(1, 11);
        due(x.rests(0), 2);
        // NAME at rest, KEPT not: 9 a year up to 60.
        NinePots y = new NinePots();
        y.set(1, 0);
        due(y.rests(0), 8);
        // KEPT at rest, NAME goes to and fro.
        NinePots z = new NinePots();
        Checks.read(z, 1, "n%2*2-1");
        z.set(2, 0);
        z.set(1, 1);
        due(z.rests(0), NONE);
        Sentence.refusedBehind(w -> {
            w.read(1, "n%2*2-1");
            w.ask("set", 1, 1);
        }, NONE, "rests", 0);
    }

    static void restsWithNoneKeptBack() {
        says(25, "as if YEARS at these went by, nothing being kept back");
        NinePots x = eager(9);
        x.set(1, 12);
        due(x.rests(0), 1);
        x.set(1, 11);
        due(x.rests(0), 2);
    }

    static void restsAt199() {
        says(25, "RESTS at a STEP. BEYOND. NONE.");
        NinePots x = new NinePots();
        goTo199(x);
        due(x.rests(0), 8);
        due(x.count(0), 199);
    }

    // ---- promise 26

    static void clearOfNoPots() {
        says(26, "(none is kept back; there is one on sale at least)");
        NinePots x = eager(9);
        x.set(2, 0);
        due(x.clear(), NONE);
        x.set(3, 1);
        due(x.clear(), 0);
        x.set(3, 0);
        x.set(2, 1);
        due(x.clear(), 0);
        due(new NinePots().clear(), NONE);
        NinePots none = new NinePots();
        none.set(2, 0);
        due(none.clear(), NONE);
    }

    static void clearOfJustAll() {
        says(26, "The least STEP at which just all are sold in a YEAR now");
        NinePots x = eager(9);
        due(x.clear(), 0);
        x.set(3, 1);
        due(x.clear(), NONE);
        x.buyer(0, 0, 1);
        due(x.clear(), 0);
        x.set(2, 8);
        due(x.clear(), 0);
        NinePots most = eager(9, 9, 9, 9, 9, 9, 9, 9);
        most.set(2, 20);
        most.set(3, 52);
        due(most.clear(), 0);
        most.set(3, 53);
        due(most.clear(), NONE);
    }

    static void clearFromTheFirstStepToTheLast() {
        says(26, "The least STEP at which just all are sold in a YEAR now");
        NinePots x = new NinePots();
        x.buyer(0, 20, 9);
        for (int step = 0; step < 9; step++) {
            x.coins(step, 51);
        }
        x.coins(9, 50);
        due(x.clear(), 9);
        x.coins(9, 51);
        due(x.clear(), NONE);
        x.coins(0, 50);
        due(x.clear(), 0);
        // Twice as many above LAST alone.
        NinePots y = new NinePots();
        Checks.read(y, 0, "9999");
        y.buyer(DEALER, 0, 5);
        for (int last = 0; last < 9; last++) {
            y.set(0, last);
            due(y.clear(), last + 1);
        }
        y.set(0, 9);
        due(y.clear(), NONE);
    }

    static void clearAt199() {
        says(26, "The least STEP at which just all are sold in a YEAR now");
        NinePots x = eager(9);
        goTo199(x);
        due(x.clear(), 0);
        due(x.count(0), 199);
        due(x.count(5), 0);
    }
}
