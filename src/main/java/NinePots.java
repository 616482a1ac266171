/**
 * Nine pots a year: one who makes few, the buyers, the years that go by and
 * what the years to come would bring. The document's words in capitals are
 * used here as it tells them.
 */
public final class NinePots {
    private static final int LOW = -1000000000;
    private static final int BEYOND = LOW - 1;
    private static final int NONE = LOW - 2;
    private static final int STATE = LOW - 3;
    private static final int FULL = LOW - 4;
    private static final int WRONG_KIND = LOW - 5;
    private static final int ERRORS = 5;

    private static final int STEPS = 10;
    private static final int COINS_MOST = 9999;
    private static final int NAME_MOST = 12;
    private static final int MAKES_MOST = 20;
    private static final int KEPT_MOST = 60;
    private static final int PURSE_MOST = 99999999;
    private static final int HAS_MOST = 9999;
    private static final int WANTS_MOST = 9999;
    private static final int TAKES_MOST = 9;
    private static final int BUYERS_MOST = 8;
    private static final int BACK_MOST = 99;
    private static final int LAST_YEAR = 199;
    private static final int LIFE_MOST = 30;
    private static final int AHEAD_MOST = 40;
    private static final int ROW_MOST = 3;
    private static final int TAPE_MOST = 50;
    private static final int WAIT_MOST = 20;
    private static final int SHEETS = 4;
    private static final int SHEET_MOST = 40;
    private static final int TRACE_MOST = 40;

    /** The settings in the order of set(): LAST, NAME, MAKES, KEPT, PURSE, PAINS. */
    private static final int[] SETTING_LOW = {0, 0, 0, 0, -PURSE_MOST, 0};
    private static final int[] SETTING_HIGH = {STEPS - 1, NAME_MOST, MAKES_MOST, KEPT_MOST, PURSE_MOST, 999};

    private static final int BUYER = 0;
    private static final int RISER = 1;
    private static final int DEALER = 2;
    private static final int KEEPER = 3;
    private static final int FRIEND = 4;
    private static final int SHOP = 5;
    private static final int CROWD = 6;
    private static final int KINDS = 7;

    /** The KIND that each KIND is under; none is above BUYER. */
    private static final int[] ABOVE = {-1, BUYER, RISER, BUYER, KEEPER, BUYER, RISER};

    /** Who comes in a year: bit i stands for BUYER i. */
    private static final int EVERYONE = 255;

    private final Whole whole = new Whole();
    private final Whole pictured = new Whole();
    private final Outlook outlook = new Outlook(whole.rules);
    private final Voices voices = new Voices();
    private final Reader reader = new Reader();
    private final Sheet[] sheets = new Sheet[SHEETS];
    private final int[] failed = new int[ERRORS + 1];
    private int pictures;

    public NinePots() {
        for (int i = 0; i < SHEETS; i++) {
            sheets[i] = new Sheet();
        }
    }

    // ---- steps, settings, buyers

    public int coins(int step, int v) {
        if (!isStep(step) || !isWithin(v, 1, COINS_MOST)) {
            return fails(BEYOND);
        }
        int was = whole.rules.coins[step];
        whole.rules.coins[step] = v;
        return was;
    }

    public int set(int what, int v) {
        if (!isWithin(what, 0, SETTING_LOW.length - 1) || !isWithin(v, SETTING_LOW[what], SETTING_HIGH[what])) {
            return fails(BEYOND);
        }
        int was = whole.stand.setting(what);
        whole.stand.change(what, v);
        return was;
    }

    public int buyer(int kind, int wants, int most) {
        if (!isBuyerAsTold(kind, wants, most)) {
            return fails(BEYOND);
        }
        int number = whole.comes(kind, wants, most);
        return number < 0 ? fails(FULL) : number;
    }

    public int ofBuyer(int buyer, int what) {
        if (!whole.rules.isBuyer(buyer) || !isWithin(what, 0, 3)) {
            return fails(BEYOND);
        }
        switch (what) {
            case 0:
                return whole.rules.kinds[buyer];
            case 1:
                return whole.rules.wants[buyer];
            case 2:
                return whole.rules.takes[buyer];
            default:
                return whole.stand.has[buyer];
        }
    }

    public int as(int buyer, int kind) {
        if (!whole.rules.isBuyer(buyer) || !isWithin(kind, 0, KINDS - 1)) {
            return fails(BEYOND);
        }
        return isOf(whole.rules.kinds[buyer], kind) ? whole.rules.takes[buyer] : fails(WRONG_KIND);
    }

    public int has(int buyer, int v) {
        if (!whole.rules.isBuyer(buyer) || !isWithin(v, 0, HAS_MOST)) {
            return fails(BEYOND);
        }
        int was = whole.stand.has[buyer];
        whole.stand.has[buyer] = v;
        return was;
    }

    public int buyers(int sheet) {
        Sheet from = sheetAt(sheet);
        if (from == null) {
            return fails(BEYOND);
        }
        return from.isMissing() ? fails(NONE) : bringBuyers(from);
    }

    private int bringBuyers(Sheet from) {
        int came = 0;
        for (int i = 0; i + 2 < from.length; i += 3) {
            int kind = from.number(i);
            int wants = from.number(i + 1);
            int most = from.number(i + 2);
            if (!isBuyerAsTold(kind, wants, most) || whole.comes(kind, wants, most) < 0) {
                return came;
            }
            came++;
        }
        return came;
    }

    public int at(int buyer, int step, int what, int left) {
        if (!whole.rules.isBuyer(buyer) || !isStep(step) || !isWithin(what, 0, 2) || !isWithin(left, 0, BACK_MOST)) {
            return fails(BEYOND);
        }
        Stand stand = whole.stand;
        stand.appraise();
        switch (what) {
            case 0:
                return stand.worth(buyer, step);
            case 1:
                return stand.due(buyer, step);
            default:
                return stand.buys(buyer, step, left);
        }
    }

    // ---- texts, years

    public int feed(long word, int n) {
        if (!isWithin(n, 1, 8)) {
            return fails(BEYOND);
        }
        if (whole.bytes + n > TAPE_MOST) {
            return fails(FULL);
        }
        for (int i = 0; i < n; i++) {
            whole.tape[whole.bytes + i] = (int) (word >>> (8 * i)) & 255;
        }
        whole.bytes += n;
        return whole.bytes;
    }

    public int text(int use) {
        if (!isWithin(use, 0, 1)) {
            return fails(BEYOND);
        }
        int fault = reader.reads(whole.tape, whole.bytes, use);
        whole.bytes = 0;
        if (fault >= 0) {
            return -10 - fault;
        }
        whole.rules.formula(use).take(reader.code, reader.made);
        return 1;
    }

    public int law(int use, int a, int b, int c, int d) {
        if (!isWithin(use, 0, 1)) {
            return fails(BEYOND);
        }
        return use == 0 ? whole.rules.plainWorth(a, b, c, d) : whole.rules.fame(a, b, c, d);
    }

    public int year(int step, int b) {
        if (!isStep(step) || !isWithin(b, 0, BACK_MOST)) {
            return fails(BEYOND);
        }
        if (whole.now + 1 > LAST_YEAR) {
            return fails(STATE);
        }
        whole.now++;
        whole.stand.goes(step, b, EVERYONE);
        return whole.stand.sold;
    }

    public int give(int buyer) {
        if (!whole.rules.isBuyer(buyer)) {
            return fails(BEYOND);
        }
        if (whole.stand.kept == 0) {
            return fails(STATE);
        }
        whole.stand.gives(buyer);
        return whole.stand.has[buyer];
    }

    public int life(int n, int step) {
        if (!isWithin(n, 1, LIFE_MOST) || !isStep(step)) {
            return fails(BEYOND);
        }
        if (whole.now + n > LAST_YEAR) {
            return fails(STATE);
        }
        int sold = 0;
        for (int i = 0; i < n; i++) {
            whole.now++;
            whole.stand.goes(step, 0, whole.drawn());
            sold += whole.stand.sold;
        }
        return sold;
    }

    // ---- ahead

    public int then(int n, int step, int what) {
        if (!isWithin(n, 0, AHEAD_MOST) || !isStep(step) || !isWithin(what, 0, 4)) {
            return fails(BEYOND);
        }
        Stand ahead = outlook.from(whole.stand);
        ahead.goesYears(n, step);
        return ahead.figure(what);
    }

    public int by(int sheet, int what) {
        Sheet row = sheetAt(sheet);
        if (row == null || !isWithin(what, 0, 4)) {
            return fails(BEYOND);
        }
        if (row.isMissing()) {
            return fails(NONE);
        }
        Stand ahead = outlook.from(whole.stand);
        for (int i = 0; i < row.length && isStep(row.number(i)); i++) {
            ahead.goes(row.number(i), 0, EVERYONE);
        }
        return ahead.figure(what);
    }

    public int best(int n, int i) {
        return ofBestRow(n, i, false);
    }

    public int never(int n, int i) {
        return ofBestRow(n, i, true);
    }

    private int ofBestRow(int n, int i, boolean neverLower) {
        if (!isWithin(n, 1, ROW_MOST) || !isWithin(i, -1, n - 1)) {
            return fails(BEYOND);
        }
        int ends = outlook.bestEnds(whole.stand, whole.stand.kept, n, neverLower);
        return i < 0 ? ends : outlook.bestStep(i);
    }

    public int costs(int n) {
        if (!isWithin(n, 1, ROW_MOST)) {
            return fails(BEYOND);
        }
        int kept = whole.stand.kept;
        return outlook.bestEnds(whole.stand, kept, n, false) - outlook.bestEnds(whole.stand, kept, n, true);
    }

    public int raise(int n) {
        if (!isWithin(n, 1, 2)) {
            return fails(BEYOND);
        }
        int kept = outlook.leastKeptToRaise(whole.stand, n);
        return kept < 0 ? fails(NONE) : kept;
    }

    public int back(int n, int step) {
        if (!isWithin(n, 0, 20) || !isStep(step)) {
            return fails(BEYOND);
        }
        return outlook.bestBack(whole.stand, n, step);
    }

    public int whom(int n, int step) {
        if (!isWithin(n, 0, AHEAD_MOST) || !isStep(step)) {
            return fails(BEYOND);
        }
        if (whole.stand.kept == 0) {
            return fails(STATE);
        }
        return whole.rules.buyers == 0 ? fails(NONE) : outlook.bestGiven(whole.stand, n, step);
    }

    public int more(int d, int n, int step) {
        if (!isWithin(d, -MAKES_MOST, MAKES_MOST) || !isWithin(n, 0, AHEAD_MOST) || !isStep(step)) {
            return fails(BEYOND);
        }
        return outlook.endsWithMore(whole.stand, d, n, step) - outlook.endsWithMore(whole.stand, 0, n, step);
    }

    public int rests(int step) {
        if (!isStep(step)) {
            return fails(BEYOND);
        }
        int years = outlook.yearsToRest(whole.stand, step);
        return years < 0 ? fails(NONE) : years;
    }

    public int clear() {
        int step = outlook.leastClearing(whole.stand);
        return step < 0 ? fails(NONE) : step;
    }

    // ---- draws, voices, sheets, images, what is told

    public int seed(int v) {
        int was = whole.z;
        whole.z = v;
        return was;
    }

    public int voice(int buyer, int act, int x) {
        if (!whole.rules.isBuyer(buyer) || !isWithin(act, 0, Voices.ACTS - 1)) {
            return fails(BEYOND);
        }
        return voices.speaks(whole.rules, buyer, act, x);
    }

    public int trace(int i) {
        return isWithin(i, 0, voices.begun - 1) ? voices.bodies[i] : fails(NONE);
    }

    public int sheet(int sheet, int bits, int n) {
        Sheet made = sheetAt(sheet);
        if (made == null || (bits != 0 && bits != 8 && bits != 16 && bits != 32)) {
            return fails(BEYOND);
        }
        if (bits == 0) {
            made.becomes(0, 0);
            return 1;
        }
        if (n < 0) {
            return fails(STATE);
        }
        if (n > SHEET_MOST) {
            return fails(BEYOND);
        }
        made.becomes(bits, n);
        return 1;
    }

    public int put(int sheet, int i, int v) {
        Sheet into = sheetAt(sheet);
        if (into == null) {
            return fails(BEYOND);
        }
        if (into.isMissing()) {
            return fails(NONE);
        }
        if (!isWithin(i, 0, into.length - 1)) {
            return fails(BEYOND);
        }
        into.change(i, v);
        return 1;
    }

    public int move(int sheet, int i, int other, int j, int n) {
        Sheet from = sheetAt(sheet);
        Sheet to = sheetAt(other);
        if (from == null || to == null) {
            return fails(BEYOND);
        }
        if (from.isMissing() || to.isMissing()) {
            return fails(NONE);
        }
        if (from.bits != to.bits) {
            return fails(WRONG_KIND);
        }
        if (!from.holds(i, n) || !to.holds(j, n)) {
            return fails(BEYOND);
        }
        System.arraycopy(from.numbers, i, to.numbers, j, n);
        return n;
    }

    public int image() {
        pictured.take(whole);
        pictures++;
        return pictures;
    }

    public int restore() {
        if (pictures == 0) {
            return fails(NONE);
        }
        whole.take(pictured);
        return whole.now;
    }

    public int tell(int v) {
        if (whole.waiting >= WAIT_MOST) {
            return fails(FULL);
        }
        whole.waits[whole.waiting] = v;
        whole.waiting++;
        return whole.waiting;
    }

    public int check(int step) {
        int waiting = whole.waiting;
        // The numbers are gone by an ERROR, too: the document says so.
        whole.waiting = 0;
        return isStep(step) ? firstUnlike(step, waiting) : fails(BEYOND);
    }

    private int firstUnlike(int step, int waiting) {
        Stand stand = whole.stand;
        stand.appraise();
        int left = stand.pots();
        int buyers = whole.rules.buyers;
        for (int i = 0; i < buyers; i++) {
            int bought = stand.buys(i, step, left);
            if (i >= waiting || whole.waits[i] != bought) {
                return 1 + i;
            }
            left -= bought;
        }
        return waiting > buyers ? 1 + buyers : 0;
    }

    public int count(int what) {
        switch (what) {
            case 0:
                return whole.now;
            case 1:
                return whole.rules.buyers;
            case 2:
            case 3:
            case 4:
            case 5:
            case 6:
                return whole.stand.setting(what - 2);
            case 7:
                return whole.bytes;
            case 8:
                return whole.waiting;
            case 9:
                return voices.begun;
            case 10:
                return whole.z;
            default:
                return fails(BEYOND);
        }
    }

    public int told(int k) {
        return isWithin(k, 1, ERRORS) ? failed[k] : fails(BEYOND);
    }

    private int fails(int error) {
        int k = LOW - error;
        if (isWithin(k, 1, ERRORS)) {
            failed[k]++;
        }
        return error;
    }

    private Sheet sheetAt(int sheet) {
        return isWithin(sheet, 0, SHEETS - 1) ? sheets[sheet] : null;
    }

    private static boolean isWithin(int v, int least, int most) {
        return v >= least && v <= most;
    }

    private static boolean isStep(int v) {
        return isWithin(v, 0, STEPS - 1);
    }

    private static boolean isBuyerAsTold(int kind, int wants, int most) {
        return isWithin(kind, 0, KINDS - 1) && isWithin(wants, 0, WANTS_MOST) && isWithin(most, 1, TAKES_MOST);
    }

    private static int held(int v, int least, int most) {
        return Math.max(least, Math.min(most, v));
    }

    /** Whether a KIND is another one, or under it. */
    private static boolean isOf(int kind, int other) {
        int above = kind;
        for (int i = 0; i < KINDS && isWithin(above, 0, KINDS - 1); i++) {
            if (above == other) {
                return true;
            }
            above = ABOVE[above];
        }
        return false;
    }

    /** All that an IMAGE keeps. */
    private static final class Whole {
        final Rules rules = new Rules();
        final Stand stand = new Stand(rules);
        final int[] tape = new int[TAPE_MOST];
        final int[] waits = new int[WAIT_MOST];
        int bytes;
        int waiting;
        int now;
        int z = 1;

        void take(Whole other) {
            rules.take(other.rules);
            stand.take(other.stand);
            System.arraycopy(other.tape, 0, tape, 0, TAPE_MOST);
            System.arraycopy(other.waits, 0, waits, 0, WAIT_MOST);
            bytes = other.bytes;
            waiting = other.waiting;
            now = other.now;
            z = other.z;
        }

        /** A BUYER's number, or -1 if there is no room. */
        int comes(int kind, int wants, int takes) {
            int number = rules.buyers;
            if (number >= BUYERS_MOST) {
                return -1;
            }
            rules.kinds[number] = kind;
            rules.wants[number] = wants;
            rules.takes[number] = takes;
            stand.has[number] = 0;
            rules.buyers = number + 1;
            return number;
        }

        /** Who comes in a year of a LIFE. */
        int drawn() {
            int come = 0;
            for (int i = 0; i < rules.buyers; i++) {
                z = z * 1103515245 + 12345;
                if ((z >>> 8) % 13 < stand.name + 1) {
                    come |= 1 << i;
                }
            }
            return come;
        }
    }

    /** What YEARS go by and never change: COINS, BUYERS, TEXTS. */
    private static final class Rules {
        final int[] coins = new int[STEPS];
        final int[] kinds = new int[BUYERS_MOST];
        final int[] wants = new int[BUYERS_MOST];
        final int[] takes = new int[BUYERS_MOST];
        final Formula worthText = new Formula();
        final Formula fameText = new Formula();
        int buyers;

        Rules() {
            for (int step = 0; step < STEPS; step++) {
                coins[step] = 10 * (step + 1);
            }
        }

        void take(Rules other) {
            System.arraycopy(other.coins, 0, coins, 0, STEPS);
            System.arraycopy(other.kinds, 0, kinds, 0, BUYERS_MOST);
            System.arraycopy(other.wants, 0, wants, 0, BUYERS_MOST);
            System.arraycopy(other.takes, 0, takes, 0, BUYERS_MOST);
            worthText.take(other.worthText.code, other.worthText.length);
            fameText.take(other.fameText.code, other.fameText.length);
            buyers = other.buyers;
        }

        boolean isBuyer(int i) {
            return isWithin(i, 0, buyers - 1);
        }

        Formula formula(int use) {
            return use == 0 ? worthText : fameText;
        }

        int plainWorth(int w, int n, int l, int h) {
            int worth = worthText.isMissing() ? w + n * 5 - h : worthText.gives(w, n, l, h);
            return held(worth, 0, 99999);
        }

        int fame(int s, int k, int n, int u) {
            int more = fameText.isMissing() ? (k == 0 ? 1 : 0) - (k > 3 ? 1 : 0) : fameText.gives(s, k, n, u);
            return held(more, -3, 3);
        }
    }

    /** What the YEARS change, and how. Copies of it go through YEARS ahead. */
    private static final class Stand {
        final Rules rules;
        final int[] has = new int[BUYERS_MOST];
        /** WORTH as to a BUYER: no STEP changes it, so rows of STEPS share it. */
        final int[] plain = new int[BUYERS_MOST];
        int last;
        int name = 6;
        int makes = 9;
        int kept;
        int purse;
        int pains;
        /** Of the latest YEAR; each YEAR writes them anew, so that no copy needs them. */
        int sold;
        int stands;
        int climb;

        Stand(Rules rules) {
            this.rules = rules;
        }

        void take(Stand other) {
            System.arraycopy(other.has, 0, has, 0, BUYERS_MOST);
            System.arraycopy(other.plain, 0, plain, 0, BUYERS_MOST);
            last = other.last;
            name = other.name;
            makes = other.makes;
            kept = other.kept;
            purse = other.purse;
            pains = other.pains;
        }

        int setting(int what) {
            switch (what) {
                case 0:
                    return last;
                case 1:
                    return name;
                case 2:
                    return makes;
                case 3:
                    return kept;
                case 4:
                    return purse;
                default:
                    return pains;
            }
        }

        void change(int what, int v) {
            switch (what) {
                case 0:
                    last = v;
                    break;
                case 1:
                    name = v;
                    break;
                case 2:
                    makes = v;
                    break;
                case 3:
                    kept = v;
                    break;
                case 4:
                    purse = v;
                    break;
                default:
                    pains = v;
                    break;
            }
        }

        int figure(int what) {
            switch (what) {
                case 0:
                    return purse;
                case 1:
                    return name;
                case 2:
                    return kept;
                case 3:
                    return ends();
                default:
                    return hasInAll();
            }
        }

        int ends() {
            return purse + kept * rules.coins[last] / 2;
        }

        int hasInAll() {
            int sum = 0;
            for (int i = 0; i < rules.buyers; i++) {
                sum += has[i];
            }
            return sum;
        }

        int pots() {
            return kept + makes;
        }

        /** Due ahead of worth(), buys() and sells(): they read what it leaves. */
        void appraise() {
            int coins = rules.coins[last];
            for (int i = 0; i < rules.buyers; i++) {
                plain[i] = rules.plainWorth(rules.wants[i], name, coins, has[i]);
            }
        }

        int worth(int buyer, int step) {
            int worth = plain[buyer];
            int risen = step > last ? worth + worth / 5 : worth;
            switch (rules.kinds[buyer]) {
                case RISER:
                    return risen;
                case DEALER:
                    return risen - 3 * has[buyer];
                case KEEPER:
                    return has[buyer] >= 6 ? 0 : worth;
                case FRIEND:
                    return has[buyer] >= 6 ? 0 : 2 * worth;
                case SHOP:
                    return worth / 2;
                case CROWD:
                    return risen + 5 * name;
                default:
                    return worth;
            }
        }

        int due(int buyer, int step) {
            int coins = rules.coins[step];
            switch (rules.kinds[buyer]) {
                case FRIEND:
                    return coins / 2;
                case SHOP:
                    return 2 * coins / 3;
                default:
                    return coins;
            }
        }

        int buys(int buyer, int step, int left) {
            if (left <= 0 || due(buyer, step) > worth(buyer, step)) {
                return 0;
            }
            return Math.min(left, takes(buyer, step));
        }

        private int takes(int buyer, int step) {
            int takes = rules.takes[buyer];
            switch (rules.kinds[buyer]) {
                case DEALER:
                    return step > last ? 2 * takes : takes;
                case KEEPER:
                case FRIEND:
                    // A FRIEND may have 6 and more and yet find a DUE of 0 worth it.
                    return Math.max(0, Math.min(takes, 6 - has[buyer]));
                default:
                    return takes;
            }
        }

        /** A YEAR up to NAME, which ENDS doesn't look at: settles() does the rest. */
        void sells(int step, int back, int come) {
            int onSale = Math.max(0, pots() - back);
            int left = onSale;
            int paid = 0;
            for (int i = 0; i < rules.buyers; i++) {
                int bought = (come >>> i & 1) == 1 ? buys(i, step, left) : 0;
                if (bought > 0) {
                    left -= bought;
                    paid += bought * due(i, step);
                    has[i] = Math.min(HAS_MOST, has[i] + bought);
                }
            }
            sold = onSale - left;
            stands = left;
            climb = step - last;
            purse = held(purse + paid - pains * makes, -PURSE_MOST, PURSE_MOST);
            kept = Math.min(KEPT_MOST, pots() - sold);
            last = step;
        }

        void settles() {
            name = held(name + rules.fame(sold, stands, name, climb), 0, NAME_MOST);
        }

        void goes(int step, int back, int come) {
            appraise();
            sells(step, back, come);
            settles();
        }

        void goesYears(int n, int step) {
            for (int i = 0; i < n; i++) {
                goes(step, 0, EVERYONE);
            }
        }

        void gives(int buyer) {
            kept--;
            has[buyer] = Math.min(HAS_MOST, has[buyer] + 1);
            if (isOf(rules.kinds[buyer], KEEPER)) {
                name = Math.min(NAME_MOST, name + 1);
            }
        }
    }

    /** YEARS to come, gone through by copies of the Stand. */
    private static final class Outlook {
        /** The copy that has gone by i STEPS of a row is number i. */
        private final Stand[] gone = new Stand[ROW_MOST + 1];
        private final Stand scratch;
        private final int[] row = new int[ROW_MOST];
        private final int[] bestRow = new int[ROW_MOST];
        private int most;
        private boolean found;

        Outlook(Rules rules) {
            scratch = new Stand(rules);
            for (int i = 0; i < gone.length; i++) {
                gone[i] = new Stand(rules);
            }
        }

        Stand from(Stand stand) {
            scratch.take(stand);
            return scratch;
        }

        int bestStep(int i) {
            return isWithin(i, 0, bestRow.length - 1) ? bestRow[i] : 0;
        }

        /** ENDS by BEST, or NEVER, as if so many were KEPT; bestStep() tells the row then. */
        int bestEnds(Stand stand, int kept, int n, boolean neverLower) {
            Stand first = gone[0];
            if (first == null) {
                return 0;
            }
            first.take(stand);
            first.kept = kept;
            found = false;
            goOn(0, n, neverLower);
            return most;
        }

        /** All rows of n STEPS that begin with the first few of row, in their order. */
        private void goOn(int few, int n, boolean neverLower) {
            if (few < 0 || few >= n || few >= ROW_MOST) {
                return;
            }
            Stand here = gone[few];
            Stand next = gone[few + 1];
            if (here == null || next == null) {
                return;
            }
            here.appraise();
            for (int step = neverLower ? here.last : 0; step < STEPS; step++) {
                row[few] = step;
                next.take(here);
                next.sells(step, 0, EVERYONE);
                if (few + 1 == n) {
                    keepIfMore(next.ends());
                } else {
                    next.settles();
                    goOn(few + 1, n, neverLower);
                }
            }
        }

        private void keepIfMore(int ends) {
            if (!found || ends > most) {
                found = true;
                most = ends;
                System.arraycopy(row, 0, bestRow, 0, ROW_MOST);
            }
        }

        int leastKeptToRaise(Stand stand, int n) {
            if (stand.last >= STEPS - 1) {
                return -1;
            }
            for (int kept = 0; kept <= KEPT_MOST; kept++) {
                bestEnds(stand, kept, n, false);
                if (bestRow[0] > stand.last) {
                    return kept;
                }
            }
            return -1;
        }

        int bestBack(Stand stand, int n, int step) {
            int best = 0;
            int bestEnds = 0;
            for (int back = 0; back <= 20; back++) {
                scratch.take(stand);
                scratch.goes(step, back, EVERYONE);
                scratch.goesYears(n, step);
                int ends = scratch.ends();
                if (back == 0 || ends > bestEnds) {
                    best = back;
                    bestEnds = ends;
                }
            }
            return best;
        }

        int bestGiven(Stand stand, int n, int step) {
            int best = 0;
            int bestEnds = 0;
            for (int buyer = 0; buyer < stand.rules.buyers; buyer++) {
                scratch.take(stand);
                scratch.gives(buyer);
                scratch.goesYears(n, step);
                int ends = scratch.ends();
                if (buyer == 0 || ends > bestEnds) {
                    best = buyer;
                    bestEnds = ends;
                }
            }
            return best;
        }

        int endsWithMore(Stand stand, int d, int n, int step) {
            scratch.take(stand);
            scratch.makes = held(stand.makes + d, 0, MAKES_MOST);
            scratch.goesYears(n, step);
            return scratch.ends();
        }

        int yearsToRest(Stand stand, int step) {
            scratch.take(stand);
            for (int years = 1; years <= AHEAD_MOST; years++) {
                int name = scratch.name;
                int kept = scratch.kept;
                scratch.goes(step, 0, EVERYONE);
                if (scratch.name == name && scratch.kept == kept) {
                    return years;
                }
            }
            return -1;
        }

        int leastClearing(Stand stand) {
            if (stand.pots() == 0) {
                return -1;
            }
            for (int step = 0; step < STEPS; step++) {
                scratch.take(stand);
                scratch.goes(step, 0, EVERYONE);
                if (scratch.stands == 0) {
                    return step;
                }
            }
            return -1;
        }
    }

    /** A TEXT as it is worked out: what an operator takes stands ahead of it. */
    private static final class Formula {
        /** A NUMBER stands for itself, NAME i is -1 - i, an operator is this and its byte. */
        static final int OPERATOR = 10000;

        final int[] code = new int[TAPE_MOST];
        int length;
        private final int[] names = new int[4];
        private final int[] stack = new int[TAPE_MOST];

        boolean isMissing() {
            return length == 0;
        }

        void take(int[] other, int n) {
            length = held(n, 0, Math.min(other.length, code.length));
            System.arraycopy(other, 0, code, 0, length);
        }

        int gives(int a, int b, int c, int d) {
            names[0] = a;
            names[1] = b;
            names[2] = c;
            names[3] = d;
            int height = 0;
            for (int i = 0; i < length; i++) {
                int sign = code[i];
                if (sign < OPERATOR && height < stack.length) {
                    stack[height] = sign < 0 ? named(-1 - sign) : sign;
                    height++;
                } else if (sign == OPERATOR + '!' && height > 0) {
                    stack[height - 1] = stack[height - 1] == 0 ? 1 : 0;
                } else if (height > 1) {
                    height--;
                    stack[height - 1] = joined(sign - OPERATOR, stack[height - 1], stack[height]);
                }
            }
            return stack[0];
        }

        private int named(int i) {
            return i >= 0 && i < names.length ? names[i] : 0;
        }

        private static int joined(int operator, int left, int right) {
            switch (operator) {
                case '|':
                    return left != 0 || right != 0 ? 1 : 0;
                case '&':
                    return left != 0 && right != 0 ? 1 : 0;
                case '<':
                    return left < right ? 1 : 0;
                case '=':
                    return left == right ? 1 : 0;
                case '>':
                    return left > right ? 1 : 0;
                case '+':
                    return left + right;
                case '-':
                    return left - right;
                case '*':
                    return left * right;
                case '/':
                    return right == 0 ? 0 : left / right;
                default:
                    return right == 0 ? 0 : left % right;
            }
        }
    }

    /** Reads a TEXT and leaves its code, byte by byte as the document's rules T to Q go. */
    private static final class Reader {
        private static final int OPEN_MOST = 5;
        private static final int DIGITS_MOST = 4;
        /** The rules that join by operators, the loosest first: T, A, B, S, P; behind them stands Q. */
        private static final int RULE_T = 0;
        private static final int RULE_B = 2;
        private static final int RULE_Q = 5;
        private static final char[] NAMES = {'w', 'n', 'l', 'h', 's', 'k', 'n', 'u'};

        final int[] code = new int[TAPE_MOST];
        int made;
        private final int[] bytes = new int[TAPE_MOST];
        private int length;
        private int place;
        private int use;

        /** -1 if the bytes are a TEXT of the USE, else the FAULT. */
        int reads(int[] tape, int n, int use) {
            this.use = use;
            length = held(n, 0, Math.min(tape.length, bytes.length));
            System.arraycopy(tape, 0, bytes, 0, length);
            place = 0;
            made = 0;
            boolean whole = readsRule(RULE_T, 0) && place == length;
            return whole ? -1 : place;
        }

        /** The byte that is read next, -1 behind the last. */
        private int ahead() {
            return place < length ? bytes[place] : -1;
        }

        private boolean readsRule(int rule, int open) {
            if (rule >= RULE_Q) {
                return readsQ(open);
            }
            if (!readsRule(rule + 1, open)) {
                return false;
            }
            for (int joined = 0; joined < TAPE_MOST; joined++) {
                int operator = ahead();
                // B joins two at most: what stands behind them is for a looser rule.
                if (ruleOf(operator) != rule || (rule == RULE_B && joined == 1)) {
                    return true;
                }
                place++;
                if (!readsRule(rule + 1, open)) {
                    return false;
                }
                makes(Formula.OPERATOR + operator);
            }
            return true;
        }

        private static int ruleOf(int operator) {
            switch (operator) {
                case '|':
                    return RULE_T;
                case '&':
                    return 1;
                case '<':
                case '=':
                case '>':
                    return RULE_B;
                case '+':
                case '-':
                    return 3;
                case '*':
                case '/':
                case '%':
                    return 4;
                default:
                    return -1;
            }
        }

        private boolean readsQ(int open) {
            int sign = ahead();
            if (isDigit(sign)) {
                readsNumber();
                return true;
            }
            int name = nameOf(sign);
            if (name >= 0) {
                place++;
                makes(-1 - name);
                return true;
            }
            if (open >= OPEN_MOST) {
                return false;
            }
            return sign == '!' ? readsNot(open + 1) : sign == '(' && readsInside(open + 1);
        }

        private boolean readsNot(int open) {
            place++;
            if (!readsQ(open)) {
                return false;
            }
            makes(Formula.OPERATOR + '!');
            return true;
        }

        private boolean readsInside(int open) {
            place++;
            if (!readsRule(RULE_T, open) || ahead() != ')') {
                return false;
            }
            place++;
            return true;
        }

        private void readsNumber() {
            int number = 0;
            for (int digits = 0; digits < DIGITS_MOST && isDigit(ahead()); digits++) {
                number = 10 * number + ahead() - '0';
                place++;
            }
            makes(number);
        }

        private static boolean isDigit(int sign) {
            return isWithin(sign, '0', '9');
        }

        private int nameOf(int sign) {
            for (int i = 0; i < 4; i++) {
                int at = 4 * use + i;
                if (isWithin(at, 0, NAMES.length - 1) && NAMES[at] == sign) {
                    return i;
                }
            }
            return -1;
        }

        private void makes(int sign) {
            if (made < code.length) {
                code[made] = sign;
                made++;
            }
        }
    }

    /** VOICES of a BUYER and THE TRACE of their BODIES. */
    private static final class Voices {
        static final int ACTS = 4;
        private static final int WANTS = 0;
        private static final int BUYS = 1;
        private static final int KEEPS = 2;
        private static final int TELLS = 3;
        /** Far above what any VOICE needs. */
        private static final int DEPTH_MOST = 20;
        /** By KINDS, the BODIES of wants, buys, keeps, tells; 0 where the KIND above has to be asked. */
        private static final int[] BODY_OF = {
            10, 11, 12, 13,
            0, 20, 0, 0,
            30, 0, 0, 0,
            0, 0, 40, 0,
            50, 0, 0, 51,
            0, 60, 0, 0,
            0, 0, 70, 71,
        };

        final int[] bodies = new int[TRACE_MOST];
        int begun;
        private int kind;
        private int number;
        private int most;

        int speaks(Rules rules, int buyer, int act, int x) {
            kind = rules.kinds[buyer];
            number = buyer;
            most = rules.takes[buyer];
            begun = 0;
            return own(act, x, 0);
        }

        private int own(int act, int x, int depth) {
            return body(bodyFrom(kind, act), x, depth + 1);
        }

        private int above(int thisKind, int act, int x, int depth) {
            return body(bodyFrom(ABOVE[thisKind], act), x, depth + 1);
        }

        /** The BODY of a KIND, or of the next KIND above that has one; 0 if none has. */
        private static int bodyFrom(int kind, int act) {
            int from = kind;
            for (int i = 0; i < KINDS && isWithin(from, 0, KINDS - 1); i++) {
                int body = BODY_OF[ACTS * from + act];
                if (body != 0) {
                    return body;
                }
                from = ABOVE[from];
            }
            return 0;
        }

        private int body(int body, int x, int depth) {
            if (depth > DEPTH_MOST) {
                return 0;
            }
            begins(body);
            switch (body) {
                case 10:
                    return x + number;
                case 11:
                    return own(WANTS, x, depth) * 2;
                case 12:
                    return x - most;
                case 13:
                    return own(BUYS, x, depth) ^ own(KEEPS, x, depth);
                case 20:
                    return above(RISER, BUYS, x, depth) - own(KEEPS, 1, depth);
                case 30:
                    return above(DEALER, WANTS, x, depth) * 3;
                case 40:
                    return -above(KEEPER, KEEPS, x, depth);
                case 50:
                    return above(FRIEND, WANTS, x + 1, depth);
                case 51:
                    return above(FRIEND, TELLS, x, depth) - own(WANTS, 2, depth);
                case 60:
                    return above(SHOP, BUYS, x, depth) ^ number;
                case 70:
                    return above(CROWD, KEEPS, x, depth) + most;
                case 71:
                    return own(BUYS, x, depth) - above(CROWD, TELLS, x, depth);
                default:
                    return 0;
            }
        }

        private void begins(int body) {
            if (begun < bodies.length) {
                bodies[begun] = body;
                begun++;
            }
        }
    }

    /** A row of numbers of so many bits; 0 bits: it is missing. */
    private static final class Sheet {
        final int[] numbers = new int[SHEET_MOST];
        int bits;
        int length;

        boolean isMissing() {
            return bits == 0;
        }

        void becomes(int bits, int n) {
            this.bits = bits;
            length = held(n, 0, SHEET_MOST);
            for (int i = 0; i < SHEET_MOST; i++) {
                numbers[i] = 0;
            }
        }

        int number(int i) {
            return isWithin(i, 0, length - 1) ? numbers[i] : 0;
        }

        void change(int i, int v) {
            if (isWithin(i, 0, length - 1)) {
                numbers[i] = lowest(v);
            }
        }

        private int lowest(int v) {
            switch (bits) {
                case 8:
                    return (byte) v;
                case 16:
                    return (short) v;
                default:
                    return v;
            }
        }

        /** Whether n numbers stand from number i on. */
        boolean holds(int i, int n) {
            return n >= 0 && i >= 0 && n <= length && i <= length - n;
        }
    }
}
