import java.io.IOException;
import java.lang.reflect.InvocationTargetException;
import java.lang.reflect.Method;
import java.lang.reflect.Modifier;
import java.nio.file.Files;
import java.nio.file.Path;
import java.util.Arrays;
import java.util.Comparator;
import java.util.List;
import java.util.Set;
import java.util.TreeSet;
import java.util.function.Consumer;

/**
 * Tests of the document's sentences, one a method: it says() which promise and
 * which words it is about, and asks then. The words have to stand in the document.
 */
final class Sentence {
    private static final Path DOCUMENT = Path.of("../shared/DOC.md");
    private static final Set<Integer> PROMISES = new TreeSet<>();
    private static String document = "";
    private static String label = "";
    private static int asked = 0;

    private Sentence() {
    }

    /** Runs each method of a class that is static and takes nothing; promises least to most have to be spoken of. */
    static void runAll(Class<?> tests, int least, int most) throws IOException, IllegalAccessException {
        document = plain(Files.readString(DOCUMENT));
        Method[] methods = tests.getDeclaredMethods();
        Arrays.sort(methods, Comparator.comparing(Method::getName));
        for (Method method : methods) {
            boolean isTest = Modifier.isStatic(method.getModifiers()) && method.getParameterCount() == 0
                && method.getReturnType() == void.class && !method.isSynthetic();
            if (isTest) {
                runOne(method);
            }
        }
        for (int promise = least; promise <= most; promise++) {
            Checks.holds("a test of promise " + promise, PROMISES.contains(promise));
        }
        Checks.end();
    }

    private static void runOne(Method method) throws IllegalAccessException {
        label = "";
        method.setAccessible(true);
        try {
            method.invoke(null);
        } catch (InvocationTargetException thrown) {
            Checks.holds(method.getName() + " threw " + thrown.getCause() + ": that nothing is thrown", false);
        }
        Checks.holds(method.getName() + " says which sentence it is about", !label.isEmpty());
    }

    private static String plain(String text) {
        return text.replaceAll("\\s+", " ");
    }

    static void says(int promise, String words) {
        PROMISES.add(promise);
        label = "promise " + promise + ", \"" + words + "\"";
        asked = 0;
        Checks.holds(label + " stands in the document", document.contains(plain(words)));
    }

    static void due(long got, long want) {
        asked++;
        Checks.due(label + ", number " + asked, got, want);
    }

    /** A call that answers an ERROR, in every State. */
    static void refused(int error, String name, long... arguments) {
        for (State state : State.values()) {
            refusedIn(state, error, name, arguments);
        }
    }

    /** A call that answers an ERROR, counts it once, and leaves all else as it was. */
    static void refusedIn(State state, int error, String name, long... arguments) {
        Asked called = state.made();
        Checks.due(call(name, arguments) + " in " + state, called.ask(name, arguments), error);
        compares(call(name, arguments) + " in " + state, state.made(), called, -1000000000 - error);
    }

    /** The same with a new object to which something was done ahead. */
    static void refusedBehind(Consumer<Asked> ahead, int error, String name, long... arguments) {
        Asked left = new Asked();
        Asked called = new Asked();
        ahead.accept(left);
        ahead.accept(called);
        Checks.due(call(name, arguments), called.ask(name, arguments), error);
        compares(call(name, arguments), left, called, -1000000000 - error);
    }

    /** A call that only looks: it answers no ERROR and leaves all as it was. */
    static void looksIn(State state, String name, long... arguments) {
        Asked called = state.made();
        called.ask(name, arguments);
        compares(call(name, arguments) + " in " + state, state.made(), called, 0);
    }

    private static String call(String name, long[] arguments) {
        return label + ", " + name + Arrays.toString(arguments);
    }

    /** Both are alike in all that can be asked, but for one ERROR more of sort k, if k isn't 0. */
    static void alike(Asked left, Asked called, int k) {
        compares(label, left, called, k);
    }

    private static void compares(String what, Asked left, Asked called, int k) {
        for (int i = 1; i <= 5; i++) {
            Checks.due(what + ", then told(" + i + ")", called.ask("told", i), left.ask("told", i) + (i == k ? 1 : 0));
        }
        List<String> as = left.everything();
        List<String> is = called.everything();
        for (int i = 0; i < Math.max(as.size(), is.size()); i++) {
            String want = i < as.size() ? as.get(i) : "nothing";
            String got = i < is.size() ? is.get(i) : "nothing";
            if (!want.equals(got)) {
                Checks.holds(what + ", then " + got + " in place of " + want + ": that all stays as it was", false);
                return;
            }
        }
        Checks.holds(what, true);
    }
}
