/** Objects as they may stand when a call comes: new, with all that can be empty empty, with some of all, full. */
enum State {
    NEW, EMPTY, RICH, FULL;

    static final int TOLD_STEP = 3;
    private static final int[] BITS = {8, 16, 32, 8};

    Asked made() {
        Asked x = new Asked();
        switch (this) {
            case EMPTY:
                empties(x);
                return x;
            case RICH:
                enriches(x);
                return x;
            case FULL:
                fills(x);
                return x;
            default:
                return x;
        }
    }

    /** How many BUYERS it has. */
    int buyers() {
        return new int[] {0, 1, 7, 8}[ordinal()];
    }

    /** One BUYER, no pots, SHEETS without numbers. */
    private static void empties(Asked x) {
        x.ask("image");
        x.ask("buyer", 0, 0, 1);
        x.ask("set", 0, 9);
        x.ask("set", 1, 0);
        x.ask("set", 2, 0);
        x.ask("set", 4, -99999999);
        x.ask("voice", 0, 0, 0);
        for (int sheet = 0; sheet < 4; sheet++) {
            x.ask("sheet", sheet, BITS[sheet], 0);
        }
    }

    /** Room for one more BUYER, SHEET 3 missing, an IMAGE of another time, ERRORS of each sort but one. */
    private static void enriches(Asked x) {
        for (int kind = 0; kind < 3; kind++) {
            x.ask("buyer", kind, 90 + kind, 3 + kind);
        }
        x.ask("coins", 1, 17);
        x.ask("set", 5, 3);
        x.read(0, "w-h");
        x.read(1, "k-2");
        x.feed("w-");
        x.ask("tell", 1);
        x.ask("seed", 77);
        x.ask("year", 2, 1);
        x.ask("image");

        for (int kind = 3; kind < 7; kind++) {
            x.ask("buyer", kind, 90 + kind, 4);
            x.ask("has", kind, kind - 2);
        }
        x.ask("check", 0);
        x.ask("coins", 2, 33);
        x.ask("coins", 9, 101);
        x.ask("text", 0);
        x.read(0, "w+n*4-h");
        x.read(1, "u-(k>2)");
        x.ask("year", 3, 0);
        int[] settings = {2, 7, 8, 11, -500, 21};
        for (int what = 0; what < 6; what++) {
            x.ask("set", what, settings[what]);
        }
        x.feed("w*2+");
        x.ask("seed", -12345);
        x.ask("voice", 6, 3, 5);
        for (int sheet = 0; sheet < 3; sheet++) {
            int n = new int[] {5, 7, 3}[sheet];
            x.ask("sheet", sheet, BITS[sheet], n);
            for (int i = 0; i < n; i++) {
                x.ask("put", sheet, i, (3 * i + sheet + 2) % 10);
            }
        }
        x.ask("coins", 10, 1);
        x.ask("trace", 99);
        x.ask("sheet", 0, 8, -1);
        x.ask("as", 0, 1);
        tellsAll(x);
    }

    /** What each BUYER would buy in a YEAR at the STEP, in order. */
    private static void tellsAll(Asked x) {
        long left = x.ask("count", 4) + x.ask("count", 5);
        long buyers = x.ask("count", 1);
        for (int i = 0; i < buyers; i++) {
            long buys = x.ask("at", i, TOLD_STEP, 2, left);
            left -= buys;
            x.ask("tell", buys);
        }
    }

    /** No room for anything: 8 BUYERS, YEAR 199, 50 bytes, 20 numbers, SHEETS of 40. */
    private static void fills(Asked x) {
        x.ask("buyer", 1, 5, 5);
        x.ask("image");
        for (int i = 1; i < 8; i++) {
            x.ask("buyer", i % 7, 9990 + i, 9);
        }
        for (int i = 0; i < 6; i++) {
            x.ask("life", 30, 8);
        }
        x.ask("life", 19, 9);
        int[] settings = {9, 12, 20, 60, 99999999, 999};
        for (int what = 0; what < 6; what++) {
            x.ask("set", what, settings[what]);
        }
        for (int step = 0; step < 10; step++) {
            x.ask("coins", step, 9999);
        }
        for (int i = 0; i < 8; i++) {
            x.ask("has", i, i % 3 == 0 ? 9999 : i);
        }
        x.feed("1+".repeat(24) + "10");
        x.ask("voice", 6, 3, 5);
        for (int sheet = 0; sheet < 3; sheet++) {
            x.ask("sheet", sheet, BITS[sheet], 40);
            for (int i = 0; i < 10; i++) {
                x.ask("put", sheet, i, (7 * i + sheet) % 10);
            }
            x.ask("move", sheet, 0, sheet, 10, 10);
            x.ask("move", sheet, 0, sheet, 20, 20);
        }
        x.ask("sheet", 3, 8, 40);
        x.ask("move", 0, 0, 3, 0, 40);
        tellsAll(x);
        for (int i = 8; i < 20; i++) {
            x.ask("tell", i);
        }
    }
}
