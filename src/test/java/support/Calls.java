import java.util.Random;

/** Calls by name, and calls by draws: mostly as the document allows, at times at the edges and beyond. */
final class Calls {
    /** Name, and a letter for each argument: what sort of number it takes. */
    static final String[] FACE = {
        "coins sC", "set WV", "buyer kwm", "ofBuyer bq", "as bk", "has bh", "buyers f", "at bsrl", "feed Tn", "text u",
        "law uiiii", "year sB", "give b", "life Ls", "then Asq5", "by fq", "best Ri", "never Ri", "costs R", "raise R",
        "back Ns", "whom As", "more dAs", "rests s", "clear ", "seed i", "voice bqi", "trace t", "sheet fzN", "put ftp",
        "move ftftn", "image ", "restore ", "tell e", "check s", "count c", "told o",
    };

    private static final String[] WORTHS = {
        "w", "w+n*5-h", "l*2", "w*n/6", "(w>l)*w+h", "w-h*3|0", "w*(n>3)+n", "l+n-h%4", "99*w", "w/(h-2)", "9999*9999", "!h*w+5",
    };
    private static final String[] FAMES = {
        "u", "(k=0)-(k>3)", "s-k", "u-(k>2)*2", "!k", "(s>4)-(k>0&n>6)", "3-n", "0-u*2", "n%2*2-1", "(k<3)-(u<0)", "s*k-9",
    };
    private static final String SIGNS = "wnlhskuwnlhskun0123456789()!|&<=>+-*/%((((!!!!";

    private Calls() {
    }

    static long make(NinePots x, String name, long[] a) {
        int[] i = new int[5];
        for (int k = 0; k < a.length; k++) {
            i[k] = (int) a[k];
        }
        switch (name) {
            case "coins":
                return x.coins(i[0], i[1]);
            case "set":
                return x.set(i[0], i[1]);
            case "buyer":
                return x.buyer(i[0], i[1], i[2]);
            case "ofBuyer":
                return x.ofBuyer(i[0], i[1]);
            case "as":
                return x.as(i[0], i[1]);
            case "has":
                return x.has(i[0], i[1]);
            case "buyers":
                return x.buyers(i[0]);
            case "at":
                return x.at(i[0], i[1], i[2], i[3]);
            case "feed":
                return x.feed(a[0], i[1]);
            case "text":
                return x.text(i[0]);
            case "law":
                return x.law(i[0], i[1], i[2], i[3], i[4]);
            case "year":
                return x.year(i[0], i[1]);
            case "give":
                return x.give(i[0]);
            case "life":
                return x.life(i[0], i[1]);
            case "then":
                return x.then(i[0], i[1], i[2]);
            case "by":
                return x.by(i[0], i[1]);
            case "best":
                return x.best(i[0], i[1]);
            case "never":
                return x.never(i[0], i[1]);
            case "costs":
                return x.costs(i[0]);
            case "raise":
                return x.raise(i[0]);
            case "back":
                return x.back(i[0], i[1]);
            case "whom":
                return x.whom(i[0], i[1]);
            case "more":
                return x.more(i[0], i[1], i[2]);
            case "rests":
                return x.rests(i[0]);
            case "clear":
                return x.clear();
            default:
                return makeRest(x, name, i);
        }
    }

    private static long makeRest(NinePots x, String name, int[] i) {
        switch (name) {
            case "seed":
                return x.seed(i[0]);
            case "voice":
                return x.voice(i[0], i[1], i[2]);
            case "trace":
                return x.trace(i[0]);
            case "sheet":
                return x.sheet(i[0], i[1], i[2]);
            case "put":
                return x.put(i[0], i[1], i[2]);
            case "move":
                return x.move(i[0], i[1], i[2], i[3], i[4]);
            case "image":
                return x.image();
            case "restore":
                return x.restore();
            case "tell":
                return x.tell(i[0]);
            case "check":
                return x.check(i[0]);
            case "count":
                return x.count(i[0]);
            case "told":
                return x.told(i[0]);
            default:
                throw new IllegalArgumentException(name);
        }
    }

    /** A text as one might be written, at times spoilt in one place. */
    static String text(Random draws, int use) {
        int sort = draws.nextInt(6);
        String[] known = use == 0 ? WORTHS : FAMES;
        String text = sort < 3 ? known[draws.nextInt(known.length)] : grown(draws, use == 0 ? "wnlh" : "sknu", 3);
        if (text.length() > 50) {
            text = text.substring(0, 50);
        }
        if (sort == 5) {
            int at = draws.nextInt(text.length());
            String sign = draws.nextInt(9) == 0 ? "" + (char) draws.nextInt(256) : "" + SIGNS.charAt(draws.nextInt(SIGNS.length()));
            text = text.substring(0, at) + sign + text.substring(Math.min(text.length(), at + draws.nextInt(2)));
        }
        return text.length() > 50 ? text.substring(0, 50) : text;
    }

    private static String grown(Random draws, String names, int depth) {
        if (depth == 0 || draws.nextInt(4) == 0) {
            int sort = draws.nextInt(4);
            return sort == 0 ? "" + draws.nextInt(sort == 0 && draws.nextBoolean() ? 10 : 10000) : "" + names.charAt(draws.nextInt(4));
        }
        switch (draws.nextInt(5)) {
            case 0:
                return "!" + grown(draws, names, depth - 1);
            case 1:
                return "(" + grown(draws, names, depth - 1) + ")";
            default:
                return grown(draws, names, depth - 1) + "|&<=>+-*/%+-*".charAt(draws.nextInt(13)) + grown(draws, names, depth - 1);
        }
    }

    static long argument(Random draws, char sort) {
        if (draws.nextInt(25) == 0) {
            long[] edges = {Integer.MIN_VALUE, -1, 0, 1, Integer.MAX_VALUE, 10, 40, 41, 99, 100, 9999, 10000, -2, 3, 200, 255};
            return edges[draws.nextInt(edges.length)];
        }
        switch (sort) {
            case 's':
                return draws.nextInt(10);
            case 'C':
                return draws.nextInt(4) == 0 ? 1 + draws.nextInt(9999) : 1 + draws.nextInt(150);
            case 'W':
                return draws.nextInt(6);
            case 'V':
                return draws.nextInt(5) == 0 ? draws.nextInt(200000001) - 100000000 : draws.nextInt(22);
            case 'k':
                return draws.nextInt(7);
            case 'w':
                return draws.nextInt(6) == 0 ? draws.nextInt(10000) : draws.nextInt(120);
            case 'm':
                return 1 + draws.nextInt(9);
            case 'b':
                return draws.nextInt(draws.nextInt(3) == 0 ? 9 : 4);
            case 'q':
                return draws.nextInt(4);
            case '5':
                return draws.nextInt(5);
            case 'h':
                return draws.nextInt(4) == 0 ? 9990 + draws.nextInt(10) : draws.nextInt(8);
            case 'f':
                return draws.nextInt(4);
            case 'r':
                return draws.nextInt(3);
            case 'l':
                return draws.nextInt(100);
            case 'T':
                return draws.nextLong();
            case 'n':
                return draws.nextInt(9);
            case 'u':
                return draws.nextInt(2);
            case 'i':
                return draws.nextInt(3) == 0 ? draws.nextInt() : draws.nextInt(41) - 10;
            case 'B':
                return draws.nextInt(3) > 0 ? 0 : draws.nextInt(draws.nextBoolean() ? 100 : 15);
            case 'L':
                return 1 + draws.nextInt(draws.nextInt(4) == 0 ? 30 : 4);
            case 'A':
                return draws.nextInt(draws.nextInt(4) == 0 ? 41 : 8);
            case 'R':
                return draws.nextInt(12) == 0 ? 3 : 1 + draws.nextInt(draws.nextInt(8) == 0 ? 2 : 1);
            case 'N':
                return draws.nextInt(22);
            case 'd':
                return draws.nextInt(41) - 20;
            case 't':
                return draws.nextInt(15);
            case 'z':
                return new int[] {0, 8, 16, 32, 8, 16, 32, 24}[draws.nextInt(8)];
            case 'p':
                return draws.nextInt(4) == 0 ? draws.nextInt() : draws.nextInt(11);
            case 'e':
                return draws.nextInt(6);
            case 'c':
                return draws.nextInt(11);
            case 'o':
                return 1 + draws.nextInt(5);
            default:
                return draws.nextInt();
        }
    }
}
