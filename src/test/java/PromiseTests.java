/** Each promise by hand: ordinary inputs, the edges that the document names, wrong inputs. */
public final class PromiseTests {
    private static final int BEYOND = Checks.BEYOND;
    private static final int NONE = Checks.NONE;
    private static final int STATE = Checks.STATE;
    private static final int FULL = Checks.FULL;
    private static final int KIND = Checks.KIND;
    private static final int BIG = Integer.MAX_VALUE;
    private static final int SMALL = Integer.MIN_VALUE;

    private static String promise = "";
    private static int asked = 0;

    public static void main(String[] args) {
        newObject();
        coins();
        set();
        buyer();
        ofBuyer();
        as();
        has();
        buyers();
        worth();
        dueAndBuys();
        feed();
        text();
        law();
        year();
        yearHeld();
        yearFame();
        give();
        life();
        then();
        by();
        best();
        never();
        costs();
        raise();
        back();
        whom();
        more();
        rests();
        clear();
        seed();
        voice();
        trace();
        sheet();
        put();
        move();
        image();
        restore();
        tell();
        check();
        count();
        told();
        Checks.end();
    }

    private static void promise(int number, String name) {
        promise = "promise " + number + ", " + name;
        asked = 0;
    }

    private static void due(long got, long want) {
        asked++;
        Checks.due(promise + ", number " + asked, got, want);
    }

    private static void newObject() {
        promise(1, "a new object");
        NinePots x = new NinePots();
        int[] counts = {0, 0, 0, 6, 9, 0, 0, 0, 0, 0, 1};
        for (int i = 0; i < counts.length; i++) {
            due(x.count(i), counts[i]);
        }
        for (int step = 0; step < 10; step++) {
            due(x.coins(step, 1), 10 * (step + 1));
        }
        due(x.set(5, 0), 0);
        for (int k = 1; k <= 5; k++) {
            due(x.told(k), 0);
        }
        due(x.ofBuyer(0, 0), BEYOND);
        due(x.trace(0), NONE);
        due(x.restore(), NONE);
        for (int i = 0; i < 4; i++) {
            due(x.put(i, 0, 0), NONE);
        }
        due(x.law(0, 1, 2, 3, 4), 7);
        due(x.law(1, 0, 0, 0, 0), 1);
    }

    private static void coins() {
        promise(2, "coins");
        NinePots x = new NinePots();
        due(x.coins(0, 1), 10);
        due(x.coins(0, 9999), 1);
        due(x.coins(0, 5), 9999);
        due(x.coins(9, 7), 100);
        due(x.coins(-1, 5), BEYOND);
        due(x.coins(10, 5), BEYOND);
        due(x.coins(SMALL, 5), BEYOND);
        due(x.coins(0, 0), BEYOND);
        due(x.coins(0, 10000), BEYOND);
        due(x.coins(0, -1), BEYOND);
        due(x.coins(0, 6), 5);
        due(x.coins(9, 6), 7);
    }

    private static void set() {
        promise(3, "set");
        NinePots x = new NinePots();
        int[] first = {0, 6, 9, 0, 0, 0};
        int[] low = {0, 0, 0, 0, -99999999, 0};
        int[] high = {9, 12, 20, 60, 99999999, 999};
        for (int what = 0; what < 6; what++) {
            due(x.set(what, high[what]), first[what]);
            due(x.set(what, high[what] + 1), BEYOND);
            due(x.set(what, low[what]), high[what]);
            due(x.set(what, low[what] - 1), BEYOND);
            due(x.set(what, BIG), BEYOND);
            due(x.set(what, high[what] / 2), low[what]);
        }
        for (int what = 0; what < 5; what++) {
            due(x.count(2 + what), high[what] / 2);
        }
        due(x.set(5, 0), 499);
        due(x.set(-1, 0), BEYOND);
        due(x.set(6, 0), BEYOND);
        due(x.set(SMALL, 0), BEYOND);
    }

    private static void buyer() {
        promise(4, "buyer");
        NinePots x = new NinePots();
        due(x.buyer(-1, 1, 1), BEYOND);
        due(x.buyer(7, 1, 1), BEYOND);
        due(x.buyer(0, -1, 1), BEYOND);
        due(x.buyer(0, 10000, 1), BEYOND);
        due(x.buyer(0, 1, 0), BEYOND);
        due(x.buyer(0, 1, 10), BEYOND);
        due(x.count(1), 0);
        due(x.buyer(0, 0, 1), 0);
        due(x.buyer(6, 9999, 9), 1);
        for (int i = 2; i < 8; i++) {
            due(x.buyer(i % 7, i, i), i);
        }
        due(x.buyer(0, 1, 1), FULL);
        due(x.buyer(7, 1, 1), BEYOND);
        due(x.buyer(0, 1, 10), BEYOND);
        due(x.count(1), 8);
    }

    private static void ofBuyer() {
        promise(5, "ofBuyer");
        NinePots x = new NinePots();
        x.buyer(5, 123, 7);
        x.buyer(2, 9999, 1);
        x.has(0, 44);
        due(x.ofBuyer(0, 0), 5);
        due(x.ofBuyer(0, 1), 123);
        due(x.ofBuyer(0, 2), 7);
        due(x.ofBuyer(0, 3), 44);
        due(x.ofBuyer(1, 0), 2);
        due(x.ofBuyer(1, 1), 9999);
        due(x.ofBuyer(1, 2), 1);
        due(x.ofBuyer(1, 3), 0);
        due(x.ofBuyer(2, 0), BEYOND);
        due(x.ofBuyer(-1, 0), BEYOND);
        due(x.ofBuyer(0, 4), BEYOND);
        due(x.ofBuyer(0, -1), BEYOND);
        due(x.ofBuyer(BIG, SMALL), BEYOND);
    }

    private static void as() {
        promise(6, "as");
        NinePots x = new NinePots();
        int[] above = {-1, 0, 1, 0, 3, 0, 1};
        for (int kind = 0; kind < 7; kind++) {
            x.buyer(kind, 0, kind + 1);
        }
        for (int kind = 0; kind < 7; kind++) {
            for (int other = 0; other < 7; other++) {
                boolean is = other == 0 || other == kind || other == above[kind];
                due(x.as(kind, other), is ? kind + 1 : KIND);
            }
        }
        due(x.as(7, 0), BEYOND);
        due(x.as(-1, 0), BEYOND);
        due(x.as(0, 7), BEYOND);
        due(x.as(0, -1), BEYOND);
    }

    private static void has() {
        promise(7, "has");
        NinePots x = new NinePots();
        due(x.has(0, 1), BEYOND);
        x.buyer(0, 1, 1);
        due(x.has(0, 9999), 0);
        due(x.has(0, 10000), BEYOND);
        due(x.has(0, -1), BEYOND);
        due(x.has(0, 0), 9999);
        due(x.has(0, 5), 0);
        due(x.ofBuyer(0, 3), 5);
        due(x.has(1, 5), BEYOND);
        due(x.has(-1, 5), BEYOND);
    }

    private static void fill(NinePots x, int sheet, int bits, int... numbers) {
        x.sheet(sheet, bits, numbers.length);
        for (int i = 0; i < numbers.length; i++) {
            x.put(sheet, i, numbers[i]);
        }
    }

    private static void buyers() {
        promise(8, "buyers");
        NinePots x = new NinePots();
        due(x.buyers(4), BEYOND);
        due(x.buyers(-1), BEYOND);
        due(x.buyers(0), NONE);
        fill(x, 0, 16);
        due(x.buyers(0), 0);
        fill(x, 0, 16, 1, 9999);
        due(x.buyers(0), 0);
        fill(x, 0, 16, 1, 9999, 9, 6, 0, 1, 3, 5);
        due(x.buyers(0), 2);
        due(x.count(1), 2);
        due(x.ofBuyer(0, 0), 1);
        due(x.ofBuyer(0, 1), 9999);
        due(x.ofBuyer(0, 2), 9);
        due(x.ofBuyer(1, 0), 6);
        due(x.ofBuyer(1, 2), 1);
        fill(x, 1, 32, 0, 1, 1, 0, 10000, 1, 0, 1, 1);
        due(x.buyers(1), 1);
        fill(x, 1, 32, 7, 1, 1, 0, 1, 1);
        due(x.buyers(1), 0);
        fill(x, 1, 8, 0, -1, 1, 0, 1, 1);
        due(x.buyers(1), 0);
        fill(x, 1, 8, 0, 1, 1, 0, 1, 0, 0, 1, 1);
        due(x.buyers(1), 1);
        fill(x, 2, 8, 2, 1, 1, 2, 1, 1, 2, 1, 1, 2, 1, 1, 2, 1, 1);
        due(x.count(1), 4);
        due(x.buyers(2), 4);
        due(x.buyers(2), 0);
        due(x.count(1), 8);
        due(x.told(4), 0);
    }

    private static NinePots oneOfEach() {
        NinePots x = new NinePots();
        for (int kind = 0; kind < 7; kind++) {
            x.buyer(kind, 20 + kind, 9);
        }
        return x;
    }

    private static void worth() {
        promise(9, "at, WORTH");
        NinePots x = oneOfEach();
        x.set(0, 3);
        // As BUYER: 20 and the KIND, and 5 times 6: 50 to 56.
        int[] level = {50, 51, 52, 53, 108, 27, 56 + 30};
        int[] above = {50, 61, 62, 53, 108, 27, 67 + 30};
        for (int kind = 0; kind < 7; kind++) {
            due(x.at(kind, 3, 0, 0), level[kind]);
            due(x.at(kind, 2, 0, 99), level[kind]);
            due(x.at(kind, 4, 0, 0), above[kind]);
            x.has(kind, 5);
        }
        int[] withFive = {45, 46, 47 - 15, 48, 98, 25, 51 + 30};
        int[] withSix = {44, 45, 46 - 18, 0, 0, 24, 50 + 30};
        for (int kind = 0; kind < 7; kind++) {
            due(x.at(kind, 3, 0, 0), withFive[kind]);
            x.has(kind, 6);
            due(x.at(kind, 3, 0, 0), withSix[kind]);
        }
        x.has(2, 9999);
        due(x.at(2, 9, 0, 0), -3 * 9999);
        x.set(1, 0);
        due(x.at(6, 3, 0, 0), 20);
        Checks.read(x, 0, "l+h");
        due(x.at(0, 3, 0, 0), 46);
        x.set(0, 9);
        due(x.at(0, 3, 0, 0), 106);
        due(x.at(7, 0, 0, 0), BEYOND);
        due(x.at(-1, 0, 0, 0), BEYOND);
        due(x.at(0, -1, 0, 0), BEYOND);
        due(x.at(0, 10, 0, 0), BEYOND);
        due(x.at(0, 0, -1, 0), BEYOND);
        due(x.at(0, 0, 3, 0), BEYOND);
        for (int what = 0; what < 3; what++) {
            due(x.at(0, 0, what, -1), BEYOND);
            due(x.at(0, 0, what, 100), BEYOND);
        }
    }

    private static void dueAndBuys() {
        promise(9, "at, DUE and BUYS");
        NinePots x = oneOfEach();
        x.coins(2, 25);
        int[] dues = {25, 25, 25, 25, 12, 16, 25};
        int[] level = {9, 9, 9, 6, 6, 9, 9};
        int[] above = {9, 9, 18, 6, 6, 9, 9};
        for (int kind = 0; kind < 7; kind++) {
            due(x.at(kind, 2, 1, 0), dues[kind]);
            x.set(0, 2);
            due(x.at(kind, 2, 2, 99), level[kind]);
            x.set(0, 1);
            due(x.at(kind, 2, 2, 99), above[kind]);
            due(x.at(kind, 2, 2, 5), 5);
            due(x.at(kind, 2, 2, 0), 0);
        }
        // 50 is the WORTH: a DUE of just that is paid.
        due(x.at(0, 4, 2, 99), 9);
        x.coins(4, 51);
        due(x.at(0, 4, 2, 99), 0);
        x.has(3, 4);
        x.has(4, 5);
        due(x.at(3, 2, 2, 99), 2);
        due(x.at(4, 2, 2, 99), 1);
        // A DUE of 0 is no more than a WORTH of 0, but a FRIEND has enough.
        x.coins(2, 1);
        x.has(4, 7);
        due(x.at(4, 2, 1, 0), 0);
        due(x.at(4, 2, 0, 0), 0);
        due(x.at(4, 2, 2, 99), 0);
        x.has(0, 9999);
        due(x.at(0, 2, 0, 0), 0);
        due(x.at(5, 2, 1, 0), 0);
        x.has(5, 9999);
        due(x.at(5, 2, 2, 99), 9);
    }

    private static void feed() {
        promise(10, "feed");
        NinePots x = new NinePots();
        due(x.feed(0, 0), BEYOND);
        due(x.feed(0, 9), BEYOND);
        due(x.feed(0, -1), BEYOND);
        // w+1 stands in the three lowest bytes; the highest ones are left.
        due(x.feed(0x7A7A7A7A7A312B77L, 3), 3);
        due(x.feed('0', 1), 4);
        due(x.count(7), 4);
        due(x.text(0), 1);
        due(x.law(0, 5, 0, 0, 0), 15);
        for (int i = 1; i <= 6; i++) {
            due(x.feed(-1L, 8), 8 * i);
        }
        due(x.feed(-1L, 3), FULL);
        due(x.feed(-1L, 9), BEYOND);
        due(x.count(7), 48);
        due(x.feed(-1L, 2), 50);
        due(x.feed(-1L, 1), FULL);
        due(x.count(7), 50);
        due(x.text(0), -10);
        due(x.feed(0x3120312031203177L, 8), 8);
        due(x.text(0), -11);
    }

    private static void faults(int use, String text, int want) {
        NinePots x = new NinePots();
        Checks.due(promise + ", " + text, Checks.read(x, use, text), want);
        Checks.due(promise + ", tape behind " + text, x.count(7), 0);
    }

    private static void text() {
        promise(11, "text");
        String[] texts = {
            "w", "n", "l", "h", "0", "0000", "9999", "!w", "!!!!!w", "(((((w)))))", "!(!(!w))", "w<n", "(w<n)<h", "w<n&n<h|l=h",
            "1|2&3<4+5*6", "1-2+3-4", "1*2/3%4", "(w|n)&!(l)", "!w+!n*!l", "w+n*5-h", "!!!!!w+!!!!!w", "(w<n)=(n<w)",
        };
        for (String text : texts) {
            faults(0, text, 1);
        }
        String[] spoilt = {
            "", "k", "s", "u", "-1", "+", " w", ")", "W",
            "ww", "w1", "1w", "w)", "()", "w w", "w!", "w(", "(+", "!", "(", "!)",
            "w+", "1+-2", "1&&2", "1||2", "w<=", "(w", "w<)", "!!+",
            "w<n<h", "w=n=h", "w>n=h", "w+n", "(w))",
            "12345", "((((((w", "!!!!!!w", "!(!(!(w", "(w<n<h)",
        };
        int[] places = {
            0, 0, 0, 0, 0, 0, 0, 0, 0,
            1, 1, 1, 1, 1, 1, 1, 1, 1, 1, 1, 1,
            2, 2, 2, 2, 2, 2, 2, 2,
            3, 3, 3, -11, 3,
            4, 5, 5, 5, 4,
        };
        for (int i = 0; i < spoilt.length; i++) {
            faults(0, spoilt[i], -10 - places[i]);
        }
        faults(0, "!(!(!w)))", -18);
        faults(0, "w+" + (char) 200, -12);
        faults(0, "w+" + (char) 0, -12);
        faults(0, "1+".repeat(25), -60);
        faults(0, "1+".repeat(24) + "(1", -60);
        faults(0, "1+".repeat(24) + "10", 1);
        faults(0, "1+".repeat(24) + "1)", -59);
        faults(1, "s+k*n-u", 1);
        faults(1, "w", -10);
        faults(1, "n+l", -12);
        faults(1, "h", -10);

        NinePots x = new NinePots();
        Checks.feed(x, "w+1");
        due(x.text(2), BEYOND);
        due(x.text(-1), BEYOND);
        due(x.count(7), 3);
        due(x.text(0), 1);
        due(x.law(0, 6, 0, 0, 0), 7);
        due(Checks.read(x, 0, "w+"), -12);
        due(x.law(0, 6, 0, 0, 0), 7);
        due(Checks.read(x, 0, "w+2"), 1);
        due(x.law(0, 6, 0, 0, 0), 8);
        due(x.law(1, 0, 0, 0, 0), 1);
        due(Checks.read(x, 1, "2"), 1);
        due(x.law(1, 0, 0, 0, 0), 2);
        due(x.law(0, 6, 0, 0, 0), 8);
        due(x.told(1), 2);
    }

    private static void gives(String text, int a, int b, int want) {
        NinePots x = new NinePots();
        Checks.due(promise + ", reading " + text, Checks.read(x, 0, text), 1);
        Checks.due(promise + ", " + text, x.law(0, a, b, 0, 0), want);
    }

    private static void law() {
        promise(12, "law");
        NinePots x = new NinePots();
        due(x.law(0, 20, 3, 999, 4), 31);
        due(x.law(0, 0, 0, 0, 1), 0);
        due(x.law(0, 99999, 1, 0, 0), 99999);
        due(x.law(0, BIG, 1, 0, 0), 0);
        due(x.law(1, 9, 0, 9, 9), 1);
        due(x.law(1, 9, 1, 9, 9), 0);
        due(x.law(1, 9, 3, 9, 9), 0);
        due(x.law(1, 9, 4, 9, 9), -1);
        due(x.law(1, 9, -1, 9, 9), 0);
        due(x.law(2, 0, 0, 0, 0), BEYOND);
        due(x.law(-1, 0, 0, 0, 0), BEYOND);
        Checks.read(x, 0, "w*1000+n*100+l*10+h");
        due(x.law(0, 1, 2, 3, 4), 1234);
        String[] names = {"s", "k", "n", "u"};
        for (int i = 0; i < 4; i++) {
            Checks.read(x, 1, names[i]);
            due(x.law(1, i == 0 ? 2 : 0, i == 1 ? 2 : 0, i == 2 ? 2 : 0, i == 3 ? 2 : 0), 2);
        }
        due(x.law(1, 0, 0, 0, 4), 3);
        due(x.law(1, 0, 0, 0, -4), -3);
        gives("1-2-3+9", 0, 0, 5);
        gives("2*7/3%3", 0, 0, 1);
        gives("9-2*3", 0, 0, 3);
        gives("(9-2)*3", 0, 0, 21);
        gives("1+7/w", 0, 0, 1);
        gives("1+7%w", 0, 0, 1);
        gives("10+w/n", -7, 2, 7);
        gives("10+w%n", -7, 2, 9);
        gives("10+w%n", 7, -2, 11);
        gives("w/n<0", SMALL, -1, 1);
        gives("7+w%n", SMALL, -1, 7);
        gives("w+n<0", BIG, 1, 1);
        gives("w*n", 65536, 65536, 0);
        gives("w*n+3", 65536, 65537, 65539);
        gives("1|0&0", 0, 0, 1);
        gives("(1|0)&0", 0, 0, 0);
        gives("5&w", 7, 0, 1);
        gives("5|0", 0, 0, 1);
        gives("0|w", -3, 0, 1);
        gives("1<2&3>2", 0, 0, 1);
        gives("2<2", 0, 0, 0);
        gives("2>2", 0, 0, 0);
        gives("2=2", 0, 0, 1);
        gives("2<1+2", 0, 0, 1);
        gives("(1<2)+5", 0, 0, 6);
        gives("!5", 0, 0, 0);
        gives("!w", 0, 0, 1);
        gives("!!7", 0, 0, 1);
        gives("!0*5", 0, 0, 5);
        gives("0-1", 0, 0, 0);
        gives("9999*9999", 0, 0, 99999);
        gives("0012+3", 0, 0, 15);
        gives("1|1&1<1+1*(1|1&1<1+1*(1|1&1<1+1*(1|1&1<1+1*2)))", 0, 0, 1);
    }

    /** One BUYER to whom a pot is worth 50 at first. */
    private static NinePots oneBuyer(int most) {
        NinePots x = new NinePots();
        x.buyer(0, 20, most);
        return x;
    }

    private static void stands(NinePots x, int now, int last, int name, int kept, int purse) {
        due(x.count(0), now);
        due(x.count(2), last);
        due(x.count(3), name);
        due(x.count(5), kept);
        due(x.count(6), purse);
    }

    private static void year() {
        promise(13, "year");
        NinePots x = oneBuyer(3);
        due(x.year(-1, 0), BEYOND);
        due(x.year(10, 0), BEYOND);
        due(x.year(0, -1), BEYOND);
        due(x.year(0, 100), BEYOND);
        stands(x, 0, 0, 6, 0, 0);
        due(x.year(4, 0), 3);
        // 6 stand: NAME is 1 less.
        stands(x, 1, 4, 5, 6, 150);
        due(x.ofBuyer(0, 3), 3);
        // 15 pots, 3 of them on sale, worth 20 and 25 less 3.
        due(x.year(3, 12), 3);
        stands(x, 2, 3, 6, 12, 270);
        due(x.year(3, 99), 0);
        // None is on sale, so none stands: NAME is 1 more.
        stands(x, 3, 3, 7, 21, 270);
        x.set(5, 10);
        due(x.year(9, 20), 0);
        stands(x, 4, 9, 6, 30, 180);

        NinePots y = new NinePots();
        y.buyer(0, 20, 5);
        y.buyer(4, 20, 3);
        y.buyer(5, 90, 9);
        due(y.year(4, 0), 9);
        due(y.ofBuyer(0, 3), 5);
        due(y.ofBuyer(1, 3), 3);
        due(y.ofBuyer(2, 3), 1);
        due(y.count(6), 5 * 50 + 3 * 25 + 33);

        NinePots z = new NinePots();
        for (int i = 1; i <= 199; i++) {
            z.year(0, 0);
        }
        due(z.count(0), 199);
        due(z.year(0, 0), STATE);
        due(z.year(10, 0), BEYOND);
        due(z.count(0), 199);
    }

    private static void yearHeld() {
        promise(13, "year, what is held");
        NinePots x = oneBuyer(3);
        x.set(4, 99999999);
        x.set(5, 10);
        x.year(0, 0);
        due(x.count(6), 99999999 + 30 - 90);
        x.set(4, 99999999);
        x.set(5, 0);
        x.year(0, 0);
        due(x.count(6), 99999999);
        x.set(4, -99999999);
        x.set(5, 999);
        x.year(9, 0);
        due(x.count(6), -99999999);
        x.set(3, 60);
        x.set(2, 20);
        x.year(9, 0);
        due(x.count(5), 60);

        NinePots y = oneBuyer(3);
        Checks.read(y, 0, "50");
        y.has(0, 9998);
        due(y.year(4, 0), 3);
        due(y.ofBuyer(0, 3), 9999);
        due(y.count(6), 150);
        due(y.count(5), 6);
        y.set(1, 12);
        y.set(3, 0);
        y.set(2, 3);
        y.year(4, 0);
        due(y.count(3), 12);
        y.set(2, 9);
        y.set(1, 0);
        y.year(9, 0);
        due(y.count(3), 0);
    }

    private static int nameBehind(String fame, int last, int step, int b) {
        NinePots x = oneBuyer(3);
        Checks.read(x, 1, fame);
        x.set(0, last);
        x.year(step, b);
        return x.count(3);
    }

    private static void yearFame() {
        promise(13, "year, FAME");
        due(nameBehind("s-2", 0, 4, 0), 7);
        due(nameBehind("s-2", 0, 9, 0), 4);
        // 5 are on sale, 2 of them stand.
        due(nameBehind("k", 0, 4, 4), 8);
        due(nameBehind("k", 0, 4, 8), 6);
        due(nameBehind("n-5", 0, 4, 0), 7);
        due(nameBehind("u", 2, 4, 0), 8);
        due(nameBehind("u", 5, 4, 0), 5);
        due(nameBehind("u", 0, 9, 0), 9);
        due(nameBehind("0-99", 0, 9, 0), 3);
    }

    private static void give() {
        promise(14, "give");
        NinePots x = oneOfEach();
        due(x.give(0), STATE);
        due(x.give(7), BEYOND);
        due(x.give(-1), BEYOND);
        x.set(3, 20);
        for (int kind = 0; kind < 7; kind++) {
            x.set(1, 5);
            due(x.give(kind), 1);
            due(x.count(3), kind == 3 || kind == 4 ? 6 : 5);
            due(x.count(5), 19 - kind);
        }
        due(x.give(3), 2);
        x.set(1, 12);
        due(x.give(4), 2);
        due(x.count(3), 12);
        x.has(0, 9999);
        due(x.give(0), 9999);
        x.set(3, 1);
        due(x.give(0), 9999);
        due(x.count(5), 0);
        due(x.give(0), STATE);
        due(x.count(0), 0);
        due(x.count(6), 0);
    }

    private static void life() {
        promise(15, "life");
        NinePots x = new NinePots();
        due(x.life(0, 0), BEYOND);
        due(x.life(31, 0), BEYOND);
        due(x.life(1, 10), BEYOND);
        due(x.life(1, -1), BEYOND);
        due(x.count(10), 1);
        x.buyer(0, 20, 1);
        x.buyer(0, 20, 2);
        x.buyer(0, 20, 4);
        // With NAME 12 all come; 2 stand, which leaves NAME.
        x.set(1, 12);
        due(x.life(1, 0), 7);
        long z = 1;
        for (int i = 0; i < 3; i++) {
            z = z * 1103515245 + 12345 & 0xFFFFFFFFL;
        }
        due(x.count(10), (int) z);
        due(x.count(0), 1);
        due(x.count(2), 0);

        for (int seed = -20; seed < 60; seed++) {
            NinePots y = new NinePots();
            y.buyer(0, 20, 1);
            y.buyer(0, 20, 2);
            y.buyer(0, 20, 4);
            y.seed(seed);
            int sold = 0;
            z = seed & 0xFFFFFFFFL;
            for (int i = 0; i < 3; i++) {
                z = z * 1103515245 + 12345 & 0xFFFFFFFFL;
                sold += (z >> 8) % 13 < 7 ? 1 << i : 0;
            }
            due(y.life(1, 0), sold);
            due(y.count(10), (int) z);
            due(y.count(6), 10 * sold);
            due(y.count(5), 9 - sold);
        }

        NinePots w = new NinePots();
        for (int i = 0; i < 6; i++) {
            due(w.life(30, 3), 0);
        }
        due(w.count(0), 180);
        due(w.life(20, 3), STATE);
        due(w.life(31, 3), BEYOND);
        due(w.count(0), 180);
        due(w.life(19, 3), 0);
        due(w.count(0), 199);
        due(w.life(1, 3), STATE);
        due(w.count(5), 60);
    }

    private static void then() {
        promise(16, "then");
        NinePots x = oneBuyer(3);
        x.set(4, 7);
        x.set(3, 3);
        due(x.then(0, 9, 0), 7);
        due(x.then(0, 9, 1), 6);
        due(x.then(0, 9, 2), 3);
        due(x.then(0, 9, 3), 7 + 15);
        due(x.then(0, 9, 4), 0);
        // 12 pots, 3 sold at 50, 9 stand; then 18, 42 are not enough.
        due(x.then(1, 4, 0), 157);
        due(x.then(1, 4, 1), 5);
        due(x.then(1, 4, 2), 9);
        due(x.then(1, 4, 3), 157 + 225);
        due(x.then(1, 4, 4), 3);
        due(x.then(2, 4, 0), 157);
        due(x.then(2, 4, 1), 4);
        due(x.then(2, 4, 2), 18);
        due(x.then(2, 4, 3), 157 + 450);
        due(x.then(40, 4, 2), 60);
        stands(x, 0, 0, 6, 3, 7);
        due(x.ofBuyer(0, 3), 0);
        due(x.then(-1, 0, 0), BEYOND);
        due(x.then(41, 0, 0), BEYOND);
        due(x.then(0, -1, 0), BEYOND);
        due(x.then(0, 10, 0), BEYOND);
        due(x.then(0, 0, -1), BEYOND);
        due(x.then(0, 0, 5), BEYOND);
        x.coins(0, 9);
        x.set(3, 3);
        // 27 by 2 is cut.
        due(x.then(0, 0, 3), 7 + 13);
        x.buyer(0, 1, 1);
        x.has(0, 5);
        x.has(1, 8);
        due(x.then(0, 0, 4), 13);
        for (int i = 0; i < 6; i++) {
            x.life(30, 9);
        }
        x.life(19, 9);
        x.set(3, 0);
        due(x.then(2, 9, 2), 18);
    }

    private static void by() {
        promise(17, "by");
        NinePots x = oneBuyer(3);
        due(x.by(4, 0), BEYOND);
        due(x.by(-1, 0), BEYOND);
        due(x.by(0, 5), BEYOND);
        due(x.by(0, -1), BEYOND);
        due(x.by(0, 0), NONE);
        fill(x, 0, 8);
        due(x.by(0, 1), 6);
        fill(x, 0, 8, 4, 3, 10, 0, 0);
        // 3 at 50; NAME 5, HAS 3: 42, so 3 at 40.
        due(x.by(0, 0), 270);
        due(x.by(0, 1), 4);
        due(x.by(0, 2), 12);
        due(x.by(0, 3), 270 + 240);
        due(x.by(0, 4), 6);
        fill(x, 0, 16, 9, -1, 4);
        due(x.by(0, 2), 9);
        x.sheet(1, 32, 40);
        due(x.by(1, 2), x.then(40, 0, 2));
        due(x.by(1, 0), x.then(40, 0, 0));
        stands(x, 0, 0, 6, 0, 0);
        x.set(1, 4);
        due(x.by(0, 1), 3);
    }

    /** One BUYER who takes all at 50, and a last STEP at which a pot is worth little. */
    private static NinePots highStepsFall() {
        NinePots x = oneBuyer(9);
        x.coins(9, 60);
        return x;
    }

    private static void best() {
        promise(18, "best");
        NinePots x = highStepsFall();
        due(x.best(1, 0), 4);
        due(x.best(1, -1), 450);
        // Behind 9 at 50 (NAME 7, HAS 9) a pot is worth 46: 9 at 40 more, or 9 that stand at 90.
        due(x.best(2, 0), 4);
        due(x.best(2, 1), 8);
        due(x.best(2, -1), 450 + 405);
        due(x.best(0, 0), BEYOND);
        due(x.best(4, 0), BEYOND);
        due(x.best(1, 1), BEYOND);
        due(x.best(1, -2), BEYOND);
        due(x.best(3, 3), BEYOND);
        due(x.best(2, 2), BEYOND);
        due(x.best(SMALL, BIG), BEYOND);
        stands(x, 0, 0, 6, 0, 0);

        NinePots y = new NinePots();
        due(y.best(3, -1), 27 * 50);
        // LAST alone counts, if none is sold: the first of many rows.
        due(y.best(3, 0), 0);
        due(y.best(3, 1), 0);
        due(y.best(3, 2), 9);
        for (int i = 0; i < 10; i++) {
            y.coins(i, 7);
        }
        due(y.best(2, 0), 0);
        due(y.best(2, 1), 0);
        y.set(4, -99999999);
        y.set(5, 999);
        due(y.best(1, -1), -99999999 + 31);
        due(y.best(1, 0), 0);
    }

    private static void never() {
        promise(19, "never");
        NinePots x = highStepsFall();
        x.set(0, 9);
        due(x.never(1, 0), 9);
        due(x.never(1, -1), 270);
        due(x.never(2, 0), 9);
        due(x.never(2, 1), 9);
        due(x.never(3, -1), 27 * 30);
        x.set(0, 5);
        due(x.never(1, 0), 8);
        due(x.never(1, -1), 405);
        x.set(0, 4);
        due(x.never(1, 0), 4);
        due(x.never(2, 1), 8);
        due(x.never(2, -1), 855);
        due(x.never(0, 0), BEYOND);
        due(x.never(4, 0), BEYOND);
        due(x.never(1, 1), BEYOND);
        due(x.never(1, -2), BEYOND);

        NinePots y = new NinePots();
        for (int i = 0; i < 10; i++) {
            y.coins(i, 7);
        }
        y.set(0, 4);
        for (int i = 0; i < 3; i++) {
            due(y.never(3, i), 4);
        }
    }

    private static void costs() {
        promise(20, "costs");
        NinePots x = highStepsFall();
        due(x.costs(1), 0);
        due(x.costs(2), 0);
        x.set(0, 9);
        due(x.costs(1), 450 - 270);
        due(x.costs(2), 855 - 540);
        x.set(0, 5);
        due(x.costs(1), 450 - 405);
        due(x.costs(0), BEYOND);
        due(x.costs(4), BEYOND);
        due(x.costs(3), x.best(3, -1) - x.never(3, -1));
    }

    private static void raise() {
        promise(21, "raise");
        NinePots x = highStepsFall();
        due(x.raise(1), 0);
        x.set(0, 4);
        // With k KEPT: 450 and 25k at STEP 4, 405 and 45k at STEP 8.
        due(x.raise(1), 3);
        x.set(3, 30);
        due(x.raise(1), 3);
        due(x.count(5), 30);
        x.set(0, 8);
        due(x.raise(1), NONE);
        due(x.raise(2), NONE);
        x.set(0, 9);
        due(x.raise(1), NONE);
        due(x.raise(2), NONE);
        due(x.raise(0), BEYOND);
        due(x.raise(3), BEYOND);
        due(x.told(2), 4);

        // With k KEPT and none made: 59 times (k and 1) at STEP 0, 60 times k at STEP 1, which is more from 60 on.
        NinePots y = new NinePots();
        y.set(2, 0);
        y.buyer(0, 88, 1);
        for (int step = 0; step < 10; step++) {
            y.coins(step, 1);
        }
        y.coins(0, 118);
        y.coins(1, 120);
        due(y.raise(1), 60);
        y.coins(1, 119);
        due(y.raise(1), NONE);
    }

    private static void back() {
        promise(22, "back");
        NinePots x = oneBuyer(1);
        // Only if none stands is NAME 7, and a second pot worth 50: 1 on sale.
        due(x.back(1, 4), 8);
        due(x.back(0, 4), 0);
        due(x.back(1, 9), 0);
        due(x.back(-1, 0), BEYOND);
        due(x.back(21, 0), BEYOND);
        due(x.back(0, -1), BEYOND);
        due(x.back(0, 10), BEYOND);
        stands(x, 0, 0, 6, 0, 0);
        x.set(3, 12);
        due(x.back(1, 4), 20);
        x.set(3, 13);
        due(x.back(1, 4), 0);
    }

    private static void whom() {
        promise(23, "whom");
        NinePots x = new NinePots();
        due(x.whom(1, 1), STATE);
        due(x.whom(41, 1), BEYOND);
        due(x.whom(-1, 1), BEYOND);
        due(x.whom(1, 10), BEYOND);
        due(x.whom(1, -1), BEYOND);
        x.set(3, 1);
        due(x.whom(1, 1), NONE);
        x.buyer(0, 20, 1);
        x.buyer(3, 0, 1);
        x.buyer(4, 0, 1);
        x.set(1, 7);
        // 60 is due: worth 55 with NAME 7, 60 with NAME 8, which a KEEPER makes.
        due(x.whom(1, 5), 1);
        due(x.whom(0, 5), 0);
        x.set(3, 0);
        due(x.whom(1, 5), STATE);
        x.set(3, 1);
        x.has(1, 9999);
        due(x.whom(1, 5), 1);
        due(x.ofBuyer(0, 3), 0);
        due(x.count(5), 1);
        due(x.count(3), 7);
    }

    private static void more() {
        promise(24, "more");
        NinePots x = new NinePots();
        due(x.more(1, 2, 0), 10);
        due(x.more(0, 40, 9), 0);
        due(x.more(20, 1, 0), 100 - 45);
        due(x.more(11, 1, 0), 100 - 45);
        due(x.more(-20, 1, 0), -45);
        due(x.more(-9, 1, 0), -45);
        due(x.more(5, 0, 0), 0);
        x.set(5, 100);
        due(x.more(1, 2, 0), 10 - 200);
        due(x.count(4), 9);
        due(x.more(-21, 0, 0), BEYOND);
        due(x.more(21, 0, 0), BEYOND);
        due(x.more(0, -1, 0), BEYOND);
        due(x.more(0, 41, 0), BEYOND);
        due(x.more(0, 0, -1), BEYOND);
        due(x.more(0, 0, 10), BEYOND);
    }

    private static void rests() {
        promise(25, "rests");
        NinePots x = new NinePots();
        // NAME 0 behind 6 years, KEPT 60 behind 7: the 8th leaves both.
        due(x.rests(0), 8);
        due(x.rests(10), BEYOND);
        due(x.rests(-1), BEYOND);
        x.set(1, 0);
        x.set(3, 60);
        due(x.rests(9), 1);
        x.set(3, 0);
        x.set(1, 12);
        due(x.rests(9), 13);
        Checks.read(x, 1, "n%2*2-1");
        due(x.rests(0), NONE);
        // KEPT is 1 more each year: 60 behind 39 years, and 40, if one more is away from it.
        Checks.read(x, 1, "0");
        x.set(2, 1);
        x.set(3, 21);
        due(x.rests(0), 40);
        x.set(3, 20);
        due(x.rests(0), NONE);
        due(x.count(5), 20);
        due(x.count(0), 0);
    }

    private static void clear() {
        promise(26, "clear");
        NinePots x = new NinePots();
        due(x.clear(), NONE);
        x.buyer(0, 20, 8);
        due(x.clear(), NONE);
        x.set(2, 8);
        due(x.clear(), 0);
        x.coins(0, 51);
        x.coins(1, 51);
        due(x.clear(), 2);
        x.set(2, 7);
        due(x.clear(), 2);
        x.set(3, 1);
        due(x.clear(), 2);
        x.set(3, 2);
        due(x.clear(), NONE);
        x.set(3, 0);
        x.set(2, 0);
        due(x.clear(), NONE);
        x.set(3, 1);
        due(x.clear(), 2);
        // A DEALER takes twice as many above LAST.
        NinePots y = new NinePots();
        y.buyer(2, 20, 5);
        y.set(0, 2);
        due(y.clear(), 3);
        due(y.count(0), 0);
        due(y.ofBuyer(0, 3), 0);
    }

    private static void seed() {
        promise(27, "seed");
        NinePots x = new NinePots();
        due(x.seed(BIG), 1);
        due(x.seed(SMALL), BIG);
        due(x.count(10), SMALL);
        due(x.seed(BEYOND), SMALL);
        due(x.seed(0), BEYOND);
        due(x.told(1), 0);
    }

    private static void voice() {
        promise(28, "voice");
        NinePots x = new NinePots();
        due(x.voice(0, 0, 0), BEYOND);
        int[] most = {4, 3, 4, 2, 5, 2, 3};
        for (int kind = 0; kind < 7; kind++) {
            x.buyer(kind, 9, most[kind]);
        }
        due(x.voice(0, 0, 4), 4);
        due(x.voice(0, 1, 4), 8);
        due(x.voice(0, 2, 5), 1);
        due(x.voice(0, 3, 5), 10 ^ 1);
        due(x.voice(1, 1, 5), 12 + 2);
        due(x.voice(1, 3, 5), 14 ^ 2);
        due(x.voice(2, 0, 1), 9);
        due(x.voice(2, 1, 1), 18 + 3);
        due(x.voice(3, 2, 7), -5);
        due(x.voice(3, 3, 7), 20 ^ -5);
        due(x.voice(4, 0, 1), 6);
        due(x.voice(4, 3, 2), (14 ^ 3) - 7);
        due(x.voice(5, 1, 3), 16 ^ 5);
        due(x.voice(5, 3, 3), 21 ^ 1);
        due(x.voice(6, 2, 4), 4);
        due(x.voice(6, 1, 2), 15);
        due(x.voice(6, 3, 2), 15 - (15 ^ 2));
        due(x.voice(1, 0, BIG), SMALL);
        due(x.voice(2, 0, BEYOND - 2), 3 * BEYOND);
        due(x.voice(0, 0, BEYOND), BEYOND);
        due(x.told(1), 1);
        due(x.voice(7, 0, 0), BEYOND);
        due(x.voice(-1, 0, 0), BEYOND);
        due(x.voice(0, 4, 0), BEYOND);
        due(x.voice(0, -1, 0), BEYOND);
        due(x.count(9), 1);
    }

    private static void traces(NinePots x, int buyer, int act, int... bodies) {
        x.voice(buyer, act, 2);
        due(x.count(9), bodies.length);
        for (int i = 0; i < bodies.length; i++) {
            due(x.trace(i), bodies[i]);
        }
        due(x.trace(bodies.length), NONE);
    }

    private static void trace() {
        promise(29, "trace");
        NinePots x = oneOfEach();
        due(x.trace(0), NONE);
        traces(x, 0, 3, 13, 11, 10, 12);
        traces(x, 1, 3, 13, 20, 11, 10, 12, 12);
        traces(x, 2, 1, 20, 11, 30, 10, 12);
        traces(x, 2, 0, 30, 10);
        traces(x, 3, 3, 13, 11, 10, 40, 12);
        traces(x, 4, 3, 51, 13, 11, 50, 10, 40, 12, 50, 10);
        traces(x, 5, 3, 13, 60, 11, 10, 12);
        traces(x, 6, 3, 71, 20, 11, 10, 70, 12, 13, 20, 11, 10, 70, 12, 70, 12);
        due(x.trace(-1), NONE);
        due(x.trace(40), NONE);
        due(x.trace(SMALL), NONE);
        due(x.voice(9, 0, 0), BEYOND);
        due(x.count(9), 14);
        due(x.trace(0), 71);
        traces(x, 0, 0, 10);
    }

    private static void sheet() {
        promise(30, "sheet");
        NinePots x = new NinePots();
        due(x.sheet(4, 8, 1), BEYOND);
        due(x.sheet(-1, 8, 1), BEYOND);
        due(x.sheet(0, 7, 1), BEYOND);
        due(x.sheet(0, 64, 1), BEYOND);
        due(x.sheet(0, -8, 1), BEYOND);
        due(x.sheet(0, 8, 41), BEYOND);
        due(x.sheet(0, 8, -1), STATE);
        due(x.sheet(0, 8, SMALL), STATE);
        due(x.sheet(4, 8, -1), BEYOND);
        due(x.sheet(0, 7, -1), BEYOND);
        due(x.put(0, 0, 1), NONE);
        due(x.sheet(0, 8, 40), 1);
        due(x.put(0, 39, 1), 1);
        due(x.put(0, 40, 1), BEYOND);
        due(x.sheet(3, 32, 0), 1);
        due(x.put(3, 0, 1), BEYOND);
        due(x.put(0, 0, 5), 1);
        due(x.sheet(0, 8, 41), BEYOND);
        due(x.by(0, 0), 0);
        due(x.by(0, 2), 60);
        // All 0 again: LAST is STEP 0 behind it.
        due(x.sheet(0, 16, 1), 1);
        due(x.by(0, 3), 45);
        due(x.sheet(0, 0, -5), 1);
        due(x.put(0, 0, 1), NONE);
        due(x.sheet(0, 0, 99), 1);
        due(x.by(0, 0), NONE);
    }

    private static void put() {
        promise(31, "put");
        NinePots x = new NinePots();
        due(x.put(4, 0, 0), BEYOND);
        due(x.put(-1, 0, 0), BEYOND);
        due(x.put(0, -1, 0), NONE);
        x.sheet(0, 8, 1);
        x.sheet(1, 16, 1);
        x.sheet(2, 32, 1);
        due(x.put(0, 1, 0), BEYOND);
        due(x.put(0, -1, 0), BEYOND);
        due(x.put(0, BIG, 0), BEYOND);
        // ENDS by one STEP without BUYERS: 9 times its COINS by 2; 0 if it is none.
        int[] values = {3, 256 + 3, 65536 + 3, -256 + 3, 255, 128};
        int[] of8 = {180, 180, 180, 180, 0, 0};
        int[] of16 = {180, 0, 180, 0, 0, 0};
        int[] of32 = {180, 0, 0, 0, 0, 0};
        for (int i = 0; i < values.length; i++) {
            due(x.put(0, 0, values[i]), 1);
            due(x.put(1, 0, values[i]), 1);
            due(x.put(2, 0, values[i]), 1);
            due(x.by(0, 3), of8[i]);
            due(x.by(1, 3), of16[i]);
            due(x.by(2, 3), of32[i]);
        }
        fill(x, 3, 16, 0, 65535, 1);
        due(x.buyers(3), 0);
        fill(x, 3, 32, 0, 9999, 1);
        due(x.buyers(3), 1);
    }

    /** STEPS of a SHEET, up to the first that is none, told by what ENDS each leaves alone. */
    private static void holds(NinePots x, int sheet, int... steps) {
        for (int i = 0; i < steps.length; i++) {
            x.sheet(3, 8, 1);
            x.move(sheet, i, 3, 0, 1);
            due(x.by(3, 3), 9 * 10 * (steps[i] + 1) / 2);
        }
    }

    private static void move() {
        promise(32, "move");
        NinePots x = new NinePots();
        due(x.move(4, 0, 0, 0, 0), BEYOND);
        due(x.move(0, 0, 4, 0, 0), BEYOND);
        due(x.move(0, 0, -1, 0, 0), BEYOND);
        due(x.move(0, 0, 0, 0, 0), NONE);
        fill(x, 0, 8, 1, 2, 3, 4, 5);
        due(x.move(0, 0, 1, 0, 0), NONE);
        due(x.move(1, 0, 0, 0, -1), NONE);
        x.sheet(1, 16, 5);
        due(x.move(0, 0, 1, 0, 1), KIND);
        due(x.move(0, -1, 1, 0, 99), KIND);
        x.sheet(1, 8, 3);
        due(x.move(0, 0, 1, 0, 4), BEYOND);
        due(x.move(0, 3, 1, 0, 3), BEYOND);
        due(x.move(0, 0, 1, 1, 3), BEYOND);
        due(x.move(0, -1, 1, 0, 1), BEYOND);
        due(x.move(0, 0, 1, -1, 1), BEYOND);
        due(x.move(0, 0, 1, 0, -1), BEYOND);
        due(x.move(0, 0, 1, 0, SMALL), BEYOND);
        due(x.move(0, 1, 1, 0, BIG), BEYOND);
        due(x.move(0, BIG, 1, 0, 1), BEYOND);
        due(x.move(0, 0, 1, BIG, BIG), BEYOND);
        due(x.move(0, 5, 1, 3, 0), 0);
        due(x.move(0, 6, 1, 0, 0), BEYOND);
        due(x.move(0, 0, 1, 4, 0), BEYOND);
        holds(x, 1, 0, 0, 0);
        due(x.move(0, 2, 1, 0, 3), 3);
        holds(x, 1, 3, 4, 5);
        holds(x, 0, 1, 2, 3, 4, 5);
        due(x.move(0, 0, 0, 1, 4), 4);
        holds(x, 0, 1, 1, 2, 3, 4);
        due(x.move(0, 1, 0, 0, 4), 4);
        holds(x, 0, 1, 2, 3, 4, 4);
    }

    private static void image() {
        promise(33, "image");
        NinePots x = new NinePots();
        due(x.image(), 1);
        due(x.image(), 2);
        x.set(1, 3);
        due(x.restore(), 0);
        due(x.count(3), 6);
        due(x.image(), 3);
        x.set(1, 4);
        due(x.image(), 4);
        x.set(1, 5);
        due(x.restore(), 0);
        due(x.count(3), 4);
    }

    private static void restore() {
        promise(34, "restore");
        NinePots x = oneBuyer(3);
        due(x.restore(), NONE);
        x.year(4, 0);
        x.coins(1, 17);
        x.set(5, 5);
        x.seed(9);
        x.tell(8);
        Checks.read(x, 0, "w+h");
        Checks.read(x, 1, "2");
        Checks.feed(x, "w+");
        x.sheet(0, 8, 2);
        due(x.image(), 1);

        x.year(0, 0);
        x.coins(1, 18);
        for (int what = 0; what < 6; what++) {
            x.set(what, 7);
        }
        x.has(0, 77);
        x.seed(10);
        x.buyer(6, 1, 1);
        x.has(1, 5);
        x.tell(1);
        x.check(0);
        Checks.feed(x, "n");
        x.text(0);
        Checks.read(x, 1, "1");
        x.voice(0, 0, 0);
        x.sheet(0, 8, 3);
        due(x.told(2), 1);

        due(x.restore(), 1);
        int[] counts = {1, 1, 4, 5, 9, 6, 150, 2, 1, 1, 9};
        for (int i = 0; i < counts.length; i++) {
            due(x.count(i), counts[i]);
        }
        due(x.ofBuyer(0, 3), 3);
        due(x.coins(1, 1), 17);
        due(x.set(5, 0), 5);
        due(x.law(0, 5, 9, 9, 3), 8);
        due(x.law(1, 0, 0, 0, 0), 2);
        due(x.feed('n', 1), 3);
        due(x.text(0), 1);
        due(x.law(0, 5, 9, 9, 3), 14);
        due(x.put(0, 2, 1), 1);
        due(x.trace(0), 10);
        due(x.told(2), 1);
        // A BUYER who comes in place of one that is gone has nothing.
        due(x.buyer(2, 3, 4), 1);
        due(x.ofBuyer(1, 3), 0);
        due(x.ofBuyer(1, 0), 2);
        due(x.restore(), 1);
        due(x.count(1), 1);
        due(x.law(0, 5, 9, 9, 3), 8);
        x.check(3);
        due(x.count(8), 0);
        x.restore();
        x.tell(0);
        due(x.count(8), 2);
        due(x.image(), 2);
    }

    private static void tell() {
        promise(35, "tell");
        NinePots x = new NinePots();
        for (int i = 1; i <= 20; i++) {
            due(x.tell(i % 2 == 0 ? BIG : BEYOND), i);
        }
        due(x.tell(1), FULL);
        due(x.count(8), 20);
        due(x.told(4), 1);
    }

    private static void tells(NinePots x, int... numbers) {
        for (int number : numbers) {
            x.tell(number);
        }
    }

    private static void check() {
        promise(36, "check");
        NinePots x = new NinePots();
        due(x.check(0), 0);
        tells(x, 0);
        due(x.check(0), 1);
        due(x.count(8), 0);
        due(x.check(0), 0);
        x.buyer(0, 20, 5);
        x.buyer(0, 0, 2);
        x.buyer(0, 20, 9);
        due(x.check(4), 1);
        tells(x, 5, 0, 4);
        due(x.check(4), 0);
        due(x.count(8), 0);
        tells(x, 5, 0);
        due(x.check(4), 3);
        tells(x, 5, 0, 4, 0);
        due(x.check(4), 4);
        tells(x, 4, 0, 5);
        due(x.check(4), 1);
        tells(x, 5, 2, 2);
        due(x.check(4), 2);
        tells(x, 5, 2, 2);
        due(x.check(2), 0);
        tells(x, 5, 2, 9);
        x.set(3, 60);
        due(x.check(2), 0);
        tells(x, 1, 2);
        due(x.check(10), BEYOND);
        due(x.count(8), 0);
        tells(x, 1, 2);
        due(x.check(-1), BEYOND);
        due(x.count(8), 0);
        due(x.told(1), 2);
        stands(x, 0, 0, 6, 60, 0);
        due(x.ofBuyer(0, 3), 0);
    }

    private static void count() {
        promise(37, "count");
        NinePots x = oneBuyer(3);
        x.year(4, 0);
        x.set(2, 11);
        Checks.feed(x, "w+n");
        tells(x, 1, 2);
        x.voice(0, 3, 1);
        x.seed(BEYOND);
        int[] counts = {1, 1, 4, 5, 11, 6, 150, 3, 2, 4, BEYOND};
        for (int i = 0; i < counts.length; i++) {
            due(x.count(i), counts[i]);
        }
        due(x.told(1), 0);
        due(x.count(-1), BEYOND);
        due(x.count(11), BEYOND);
        due(x.count(BIG), BEYOND);
        due(x.told(1), 3);
    }

    private static void told() {
        promise(38, "told");
        NinePots x = new NinePots();
        x.coins(10, 1);
        x.clear();
        x.restore();
        x.sheet(0, 8, -1);
        x.sheet(0, 8, -1);
        x.sheet(0, 8, -1);
        for (int i = 0; i < 8; i++) {
            x.buyer(5, 1, 1);
        }
        for (int i = 0; i < 4; i++) {
            x.buyer(5, 1, 1);
        }
        for (int i = 0; i < 5; i++) {
            x.as(0, 1);
        }
        for (int k = 1; k <= 5; k++) {
            due(x.told(k), k);
        }
        due(x.told(0), BEYOND);
        due(x.told(6), BEYOND);
        due(x.told(-1), BEYOND);
        due(x.told(SMALL), BEYOND);
        due(x.told(1), 5);
        // A FAULT is no ERROR.
        due(x.text(0), -10);
        for (int k = 2; k <= 5; k++) {
            due(x.told(k), k);
        }
        due(x.told(1), 5);
    }
}
