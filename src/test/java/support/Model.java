import java.util.ArrayList;
import java.util.List;

/**
 * The document in the plainest words that Java has: buyers as a family of
 * classes, whole copies for what is ahead, every row of steps gone through from
 * its beginning. It shares nothing with NinePots.
 */
final class Model {
    private static final int LOW = -1000000000;
    private static final int BEYOND = LOW - 1;
    private static final int NONE = LOW - 2;
    private static final int STATE = LOW - 3;
    private static final int FULL = LOW - 4;
    private static final int KIND = LOW - 5;
    private static final String[] NAMES = {"wnlh", "sknu"};

    /** A number, and whether it is an ERROR: some answers may be any number. */
    private boolean isError;
    private final int[] told = new int[6];
    private final List<Integer> trace = new ArrayList<>();
    private final Object[] sheets = new Object[4];
    private World world = new World();
    private World image;
    private int images;

    private static class Person {
        final int number;
        final int wants;
        final int most;
        int has;

        Person(int number, int wants, int most) {
            this.number = number;
            this.wants = wants;
            this.most = most;
        }

        int worth(World w, int step) {
            return w.law(0, wants, w.name, w.coins[w.last], has);
        }

        int due(World w, int step) {
            return w.coins[step];
        }

        int wouldTake(World w, int step) {
            return most;
        }

        int buys(World w, int step, int left) {
            return due(w, step) > worth(w, step) ? 0 : Math.min(left, wouldTake(w, step));
        }

        int wants(List<Integer> trace, int x) {
            trace.add(10);
            return x + number;
        }

        int buys(List<Integer> trace, int x) {
            trace.add(11);
            return wants(trace, x) * 2;
        }

        int keeps(List<Integer> trace, int x) {
            trace.add(12);
            return x - most;
        }

        int tells(List<Integer> trace, int x) {
            trace.add(13);
            return buys(trace, x) ^ keeps(trace, x);
        }
    }

    private static class Riser extends Person {
        Riser(int number, int wants, int most) {
            super(number, wants, most);
        }

        @Override
        int worth(World w, int step) {
            int worth = super.worth(w, step);
            return step > w.last ? worth + worth / 5 : worth;
        }

        @Override
        int buys(List<Integer> trace, int x) {
            trace.add(20);
            return super.buys(trace, x) - keeps(trace, 1);
        }
    }

    private static final class Dealer extends Riser {
        Dealer(int number, int wants, int most) {
            super(number, wants, most);
        }

        @Override
        int worth(World w, int step) {
            return super.worth(w, step) - 3 * has;
        }

        @Override
        int wouldTake(World w, int step) {
            return step > w.last ? 2 * most : most;
        }

        @Override
        int wants(List<Integer> trace, int x) {
            trace.add(30);
            return super.wants(trace, x) * 3;
        }
    }

    private static class Keeper extends Person {
        Keeper(int number, int wants, int most) {
            super(number, wants, most);
        }

        @Override
        int worth(World w, int step) {
            return has >= 6 ? 0 : super.worth(w, step);
        }

        @Override
        int wouldTake(World w, int step) {
            return has >= 6 ? 0 : Math.min(most, 6 - has);
        }

        @Override
        int keeps(List<Integer> trace, int x) {
            trace.add(40);
            return -super.keeps(trace, x);
        }
    }

    private static final class Friend extends Keeper {
        Friend(int number, int wants, int most) {
            super(number, wants, most);
        }

        @Override
        int worth(World w, int step) {
            return 2 * super.worth(w, step);
        }

        @Override
        int due(World w, int step) {
            return super.due(w, step) / 2;
        }

        @Override
        int wants(List<Integer> trace, int x) {
            trace.add(50);
            return super.wants(trace, x + 1);
        }

        @Override
        int tells(List<Integer> trace, int x) {
            trace.add(51);
            return super.tells(trace, x) - wants(trace, 2);
        }
    }

    private static final class Shop extends Person {
        Shop(int number, int wants, int most) {
            super(number, wants, most);
        }

        @Override
        int worth(World w, int step) {
            return super.worth(w, step) / 2;
        }

        @Override
        int due(World w, int step) {
            return 2 * super.due(w, step) / 3;
        }

        @Override
        int buys(List<Integer> trace, int x) {
            trace.add(60);
            return super.buys(trace, x) ^ number;
        }
    }

    private static final class Crowd extends Riser {
        Crowd(int number, int wants, int most) {
            super(number, wants, most);
        }

        @Override
        int worth(World w, int step) {
            return super.worth(w, step) + 5 * w.name;
        }

        @Override
        int keeps(List<Integer> trace, int x) {
            trace.add(70);
            return super.keeps(trace, x) + most;
        }

        @Override
        int tells(List<Integer> trace, int x) {
            trace.add(71);
            return buys(trace, x) - super.tells(trace, x);
        }
    }

    private static final Class<?>[] CLASSES = {
        Person.class, Riser.class, Dealer.class, Keeper.class, Friend.class, Shop.class, Crowd.class,
    };

    private static Person person(int kind, int number, int wants, int most) {
        switch (kind) {
            case 0:
                return new Person(number, wants, most);
            case 1:
                return new Riser(number, wants, most);
            case 2:
                return new Dealer(number, wants, most);
            case 3:
                return new Keeper(number, wants, most);
            case 4:
                return new Friend(number, wants, most);
            case 5:
                return new Shop(number, wants, most);
            default:
                return new Crowd(number, wants, most);
        }
    }

    private static int kindOf(Person p) {
        for (int i = 0; i < CLASSES.length; i++) {
            if (p.getClass() == CLASSES[i]) {
                return i;
            }
        }
        return -1;
    }

    private static final class World {
        int now = 0;
        int[] coins = {10, 20, 30, 40, 50, 60, 70, 80, 90, 100};
        int last = 0;
        int name = 6;
        int makes = 9;
        int kept = 0;
        int purse = 0;
        int pains = 0;
        int z = 1;
        List<Person> people = new ArrayList<>();
        StringBuilder tape = new StringBuilder();
        String[] texts = {"w+n*5-h", "(k=0)-(k>3)"};
        List<Integer> waits = new ArrayList<>();

        World copy() {
            World w = new World();
            w.now = now;
            w.coins = coins.clone();
            w.last = last;
            w.name = name;
            w.makes = makes;
            w.kept = kept;
            w.purse = purse;
            w.pains = pains;
            w.z = z;
            for (Person p : people) {
                Person q = person(kindOf(p), p.number, p.wants, p.most);
                q.has = p.has;
                w.people.add(q);
            }
            w.tape = new StringBuilder(tape);
            w.texts = texts.clone();
            w.waits = new ArrayList<>(waits);
            return w;
        }

        int law(int use, int a, int b, int c, int d) {
            int v = Grammar.value(texts[use], NAMES[use], new int[] {a, b, c, d});
            return use == 0 ? Math.max(0, Math.min(99999, v)) : Math.max(-3, Math.min(3, v));
        }

        int year(int step, int b, boolean[] come) {
            int pots = kept + makes;
            int onSale = pots > b ? pots - b : 0;
            int sold = 0;
            long purseThen = purse;
            for (Person p : people) {
                if (come == null || come[p.number]) {
                    int bought = p.buys(this, step, onSale - sold);
                    for (int i = 0; i < bought; i++) {
                        purseThen += p.due(this, step);
                    }
                    sold += bought;
                    p.has = Math.min(9999, p.has + bought);
                }
            }
            purseThen -= (long) pains * makes;
            purse = (int) Math.max(-99999999, Math.min(99999999, purseThen));
            name = Math.max(0, Math.min(12, name + law(1, sold, onSale - sold, name, step - last)));
            kept = Math.min(60, pots - sold);
            last = step;
            now++;
            return sold;
        }

        void years(int n, int step) {
            for (int i = 0; i < n; i++) {
                year(step, 0, null);
            }
        }

        int ends() {
            return purse + kept * coins[last] / 2;
        }

        void give(int buyer) {
            Person p = people.get(buyer);
            kept--;
            p.has = Math.min(9999, p.has + 1);
            if (p instanceof Keeper) {
                name = Math.min(12, name + 1);
            }
        }

        int figure(int what) {
            switch (what) {
                case 0:
                    return purse;
                case 1:
                    return name;
                case 2:
                    return kept;
                case 3:
                    return ends();
                default:
                    return people.stream().mapToInt(p -> p.has).sum();
            }
        }

        /** The best row's STEPS and then its ENDS. */
        int[] best(int n, boolean never) {
            int rows = (int) Math.pow(10, n);
            int[] best = null;
            for (int row = 0; row < rows; row++) {
                int[] steps = new int[n + 1];
                int rest = row;
                for (int i = n - 1; i >= 0; i--) {
                    steps[i] = rest % 10;
                    rest /= 10;
                }
                boolean falls = false;
                for (int i = 0; i < n; i++) {
                    falls |= steps[i] < (i == 0 ? last : steps[i - 1]);
                }
                if (never && falls) {
                    continue;
                }
                World w = copy();
                for (int i = 0; i < n; i++) {
                    w.year(steps[i], 0, null);
                }
                steps[n] = w.ends();
                if (best == null || steps[n] > best[n]) {
                    best = steps;
                }
            }
            return best;
        }
    }

    /** A call by its name; what isn't a call is a fault of the test. */
    long call(String name, long[] a) {
        isError = false;
        long answer = answer(name, a);
        if (isError) {
            told[(int) (LOW - answer)]++;
        }
        return answer;
    }

    private int fail(int error) {
        isError = true;
        return error;
    }

    private static boolean in(long v, long low, long high) {
        return low <= v && v <= high;
    }

    private boolean isBuyer(long v) {
        return in(v, 0, world.people.size() - 1);
    }

    private long answer(String name, long[] a) {
        int[] i = new int[a.length];
        for (int k = 0; k < a.length; k++) {
            i[k] = (int) a[k];
        }
        switch (name) {
            case "coins": {
                if (!in(i[0], 0, 9) || !in(i[1], 1, 9999)) {
                    return fail(BEYOND);
                }
                int was = world.coins[i[0]];
                world.coins[i[0]] = i[1];
                return was;
            }
            case "set":
                return set(i[0], i[1]);
            case "buyer":
                if (!in(i[0], 0, 6) || !in(i[1], 0, 9999) || !in(i[2], 1, 9)) {
                    return fail(BEYOND);
                }
                if (world.people.size() == 8) {
                    return fail(FULL);
                }
                world.people.add(person(i[0], world.people.size(), i[1], i[2]));
                return world.people.size() - 1;
            case "ofBuyer": {
                if (!isBuyer(i[0]) || !in(i[1], 0, 3)) {
                    return fail(BEYOND);
                }
                Person p = world.people.get(i[0]);
                return new int[] {kindOf(p), p.wants, p.most, p.has}[i[1]];
            }
            case "as":
                if (!isBuyer(i[0]) || !in(i[1], 0, 6)) {
                    return fail(BEYOND);
                }
                return CLASSES[i[1]].isInstance(world.people.get(i[0])) ? world.people.get(i[0]).most : fail(KIND);
            case "has": {
                if (!isBuyer(i[0]) || !in(i[1], 0, 9999)) {
                    return fail(BEYOND);
                }
                int was = world.people.get(i[0]).has;
                world.people.get(i[0]).has = i[1];
                return was;
            }
            case "buyers":
                return buyers(i[0]);
            case "at": {
                if (!isBuyer(i[0]) || !in(i[1], 0, 9) || !in(i[2], 0, 2) || !in(i[3], 0, 99)) {
                    return fail(BEYOND);
                }
                Person p = world.people.get(i[0]);
                return i[2] == 0 ? p.worth(world, i[1]) : i[2] == 1 ? p.due(world, i[1]) : p.buys(world, i[1], i[3]);
            }
            case "feed":
                if (!in(i[1], 1, 8)) {
                    return fail(BEYOND);
                }
                if (world.tape.length() + i[1] > 50) {
                    return fail(FULL);
                }
                for (int k = 0; k < i[1]; k++) {
                    world.tape.append((char) (a[0] >> 8 * k & 255));
                }
                return world.tape.length();
            case "text": {
                if (!in(i[0], 0, 1)) {
                    return fail(BEYOND);
                }
                String text = world.tape.toString();
                world.tape.setLength(0);
                int fault = Grammar.fault(text, NAMES[i[0]]);
                if (fault >= 0) {
                    return -10 - fault;
                }
                world.texts[i[0]] = text;
                return 1;
            }
            case "law":
                return in(i[0], 0, 1) ? world.law(i[0], i[1], i[2], i[3], i[4]) : fail(BEYOND);
            case "year":
                if (!in(i[0], 0, 9) || !in(i[1], 0, 99)) {
                    return fail(BEYOND);
                }
                return world.now == 199 ? fail(STATE) : world.year(i[0], i[1], null);
            case "give":
                if (!isBuyer(i[0])) {
                    return fail(BEYOND);
                }
                if (world.kept == 0) {
                    return fail(STATE);
                }
                world.give(i[0]);
                return world.people.get(i[0]).has;
            case "life":
                return life(i[0], i[1]);
            default:
                return answerAhead(name, i);
        }
    }

    private int set(int what, int v) {
        int[][] bounds = {{0, 9}, {0, 12}, {0, 20}, {0, 60}, {-99999999, 99999999}, {0, 999}};
        if (!in(what, 0, 5) || !in(v, bounds[what][0], bounds[what][1])) {
            return fail(BEYOND);
        }
        int[] was = {world.last, world.name, world.makes, world.kept, world.purse, world.pains};
        int[] is = was.clone();
        is[what] = v;
        world.last = is[0];
        world.name = is[1];
        world.makes = is[2];
        world.kept = is[3];
        world.purse = is[4];
        world.pains = is[5];
        return was[what];
    }

    private int life(int n, int step) {
        if (!in(n, 1, 30) || !in(step, 0, 9)) {
            return fail(BEYOND);
        }
        if (world.now + n > 199) {
            return fail(STATE);
        }
        int sold = 0;
        for (int i = 0; i < n; i++) {
            boolean[] come = new boolean[8];
            for (Person p : world.people) {
                world.z = world.z * 1103515245 + 12345;
                long draw = (world.z & 0xFFFFFFFFL) >> 8;
                come[p.number] = draw % 13 <= world.name;
            }
            sold += world.year(step, 0, come);
        }
        return sold;
    }

    private int[] row(int sheet) {
        Object s = sheets[sheet];
        int n = java.lang.reflect.Array.getLength(s);
        int[] row = new int[n];
        for (int i = 0; i < n; i++) {
            row[i] = ((Number) java.lang.reflect.Array.get(s, i)).intValue();
        }
        return row;
    }

    private int buyers(int sheet) {
        if (!in(sheet, 0, 3)) {
            return fail(BEYOND);
        }
        if (sheets[sheet] == null) {
            return fail(NONE);
        }
        int[] row = row(sheet);
        int came = 0;
        for (int i = 0; i + 3 <= row.length; i += 3) {
            boolean asTold = in(row[i], 0, 6) && in(row[i + 1], 0, 9999) && in(row[i + 2], 1, 9);
            if (!asTold || world.people.size() == 8) {
                break;
            }
            world.people.add(person(row[i], world.people.size(), row[i + 1], row[i + 2]));
            came++;
        }
        return came;
    }

    private long answerAhead(String name, int[] i) {
        switch (name) {
            case "then": {
                if (!in(i[0], 0, 40) || !in(i[1], 0, 9) || !in(i[2], 0, 4)) {
                    return fail(BEYOND);
                }
                World w = world.copy();
                w.years(i[0], i[1]);
                return w.figure(i[2]);
            }
            case "by": {
                if (!in(i[0], 0, 3) || !in(i[1], 0, 4)) {
                    return fail(BEYOND);
                }
                if (sheets[i[0]] == null) {
                    return fail(NONE);
                }
                World w = world.copy();
                for (int step : row(i[0])) {
                    if (!in(step, 0, 9)) {
                        break;
                    }
                    w.year(step, 0, null);
                }
                return w.figure(i[1]);
            }
            case "best":
            case "never": {
                if (!in(i[0], 1, 3) || !in(i[1], -1, i[0] - 1)) {
                    return fail(BEYOND);
                }
                int[] best = world.best(i[0], name.equals("never"));
                return best[i[1] == -1 ? i[0] : i[1]];
            }
            case "costs":
                return in(i[0], 1, 3) ? world.best(i[0], false)[i[0]] - world.best(i[0], true)[i[0]] : fail(BEYOND);
            case "raise":
                if (!in(i[0], 1, 2)) {
                    return fail(BEYOND);
                }
                for (int kept = 0; kept <= 60; kept++) {
                    World w = world.copy();
                    w.kept = kept;
                    if (w.best(i[0], false)[0] > world.last) {
                        return kept;
                    }
                }
                return fail(NONE);
            case "back":
                return back(i[0], i[1]);
            case "whom":
                return whom(i[0], i[1]);
            case "more": {
                if (!in(i[0], -20, 20) || !in(i[1], 0, 40) || !in(i[2], 0, 9)) {
                    return fail(BEYOND);
                }
                World as = world.copy();
                World with = world.copy();
                with.makes = Math.max(0, Math.min(20, with.makes + i[0]));
                as.years(i[1], i[2]);
                with.years(i[1], i[2]);
                return with.ends() - as.ends();
            }
            case "rests": {
                if (!in(i[0], 0, 9)) {
                    return fail(BEYOND);
                }
                for (int years = 1; years <= 40; years++) {
                    World w = world.copy();
                    w.years(years - 1, i[0]);
                    World v = w.copy();
                    v.years(1, i[0]);
                    if (v.name == w.name && v.kept == w.kept) {
                        return years;
                    }
                }
                return fail(NONE);
            }
            case "clear":
                for (int step = 0; step <= 9; step++) {
                    World w = world.copy();
                    int pots = w.kept + w.makes;
                    if (pots > 0 && w.year(step, 0, null) == pots) {
                        return step;
                    }
                }
                return fail(NONE);
            default:
                return answerRest(name, i);
        }
    }

    private int back(int n, int step) {
        if (!in(n, 0, 20) || !in(step, 0, 9)) {
            return fail(BEYOND);
        }
        int best = -1;
        int ends = 0;
        for (int b = 20; b >= 0; b--) {
            World w = world.copy();
            w.year(step, b, null);
            w.years(n, step);
            if (best < 0 || w.ends() >= ends) {
                best = b;
                ends = w.ends();
            }
        }
        return best;
    }

    private int whom(int n, int step) {
        if (!in(n, 0, 40) || !in(step, 0, 9)) {
            return fail(BEYOND);
        }
        if (world.kept == 0) {
            return fail(STATE);
        }
        if (world.people.isEmpty()) {
            return fail(NONE);
        }
        int best = -1;
        int ends = 0;
        for (int i = world.people.size() - 1; i >= 0; i--) {
            World w = world.copy();
            w.give(i);
            w.years(n, step);
            if (best < 0 || w.ends() >= ends) {
                best = i;
                ends = w.ends();
            }
        }
        return best;
    }

    private long answerRest(String name, int[] i) {
        switch (name) {
            case "seed": {
                int was = world.z;
                world.z = i[0];
                return was;
            }
            case "voice": {
                if (!isBuyer(i[0]) || !in(i[1], 0, 3)) {
                    return fail(BEYOND);
                }
                trace.clear();
                Person p = world.people.get(i[0]);
                return i[1] == 0 ? p.wants(trace, i[2]) : i[1] == 1 ? p.buys(trace, i[2])
                    : i[1] == 2 ? p.keeps(trace, i[2]) : p.tells(trace, i[2]);
            }
            case "trace":
                return in(i[0], 0, Math.min(40, trace.size()) - 1) ? trace.get(i[0]) : fail(NONE);
            case "sheet":
                return sheet(i[0], i[1], i[2]);
            case "put":
                return put(i[0], i[1], i[2]);
            case "move":
                return move(i);
            case "image":
                image = world.copy();
                return ++images;
            case "restore":
                if (image == null) {
                    return fail(NONE);
                }
                world = image.copy();
                return world.now;
            case "tell":
                if (world.waits.size() == 20) {
                    return fail(FULL);
                }
                world.waits.add(i[0]);
                return world.waits.size();
            case "check":
                return check(i[0]);
            case "count": {
                int[] all = {world.now, world.people.size(), world.last, world.name, world.makes, world.kept, world.purse,
                    world.tape.length(), world.waits.size(), Math.min(40, trace.size()), world.z};
                return in(i[0], 0, 10) ? all[i[0]] : fail(BEYOND);
            }
            case "told":
                return in(i[0], 1, 5) ? told[i[0]] : fail(BEYOND);
            default:
                throw new IllegalArgumentException(name);
        }
    }

    private int sheet(int sheet, int bits, int n) {
        if (!in(sheet, 0, 3) || bits != 0 && bits != 8 && bits != 16 && bits != 32) {
            return fail(BEYOND);
        }
        if (bits == 0) {
            sheets[sheet] = null;
            return 1;
        }
        if (n < 0) {
            return fail(STATE);
        }
        if (n > 40) {
            return fail(BEYOND);
        }
        sheets[sheet] = bits == 8 ? new byte[n] : bits == 16 ? new short[n] : new int[n];
        return 1;
    }

    private int put(int sheet, int i, int v) {
        if (!in(sheet, 0, 3)) {
            return fail(BEYOND);
        }
        Object s = sheets[sheet];
        if (s == null) {
            return fail(NONE);
        }
        if (!in(i, 0, java.lang.reflect.Array.getLength(s) - 1)) {
            return fail(BEYOND);
        }
        if (s instanceof byte[]) {
            ((byte[]) s)[i] = (byte) v;
        } else if (s instanceof short[]) {
            ((short[]) s)[i] = (short) v;
        } else {
            ((int[]) s)[i] = v;
        }
        return 1;
    }

    private int move(int[] a) {
        if (!in(a[0], 0, 3) || !in(a[2], 0, 3)) {
            return fail(BEYOND);
        }
        Object from = sheets[a[0]];
        Object to = sheets[a[2]];
        if (from == null || to == null) {
            return fail(NONE);
        }
        if (from.getClass() != to.getClass()) {
            return fail(KIND);
        }
        try {
            System.arraycopy(from, a[1], to, a[3], a[4]);
            return a[4];
        } catch (IndexOutOfBoundsException e) {
            return fail(BEYOND);
        }
    }

    private int check(int step) {
        List<Integer> waits = world.waits;
        world.waits = new ArrayList<>();
        if (!in(step, 0, 9)) {
            return fail(BEYOND);
        }
        List<Integer> bought = new ArrayList<>();
        World w = world.copy();
        int left = w.kept + w.makes;
        for (Person p : w.people) {
            bought.add(p.buys(w, step, left));
            left -= bought.get(bought.size() - 1);
        }
        for (int i = 0; i < Math.max(bought.size(), waits.size()); i++) {
            if (i >= bought.size() || i >= waits.size() || !bought.get(i).equals(waits.get(i))) {
                return 1 + i;
            }
        }
        return 0;
    }
}
