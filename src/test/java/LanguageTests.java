import java.io.IOException;
import java.lang.reflect.Field;
import java.lang.reflect.Method;
import java.lang.reflect.Modifier;
import java.nio.file.Files;
import java.nio.file.Path;
import java.util.ArrayList;
import java.util.List;
import java.util.Set;
import java.util.TreeSet;
import java.util.regex.Matcher;
import java.util.regex.Pattern;

/** The rules of LANGUAGE.md that can be seen from the class and its text. */
public final class LanguageTests {
    private static final Path SOURCE = Path.of("src/main/java/NinePots.java");
    private static final Path DOCUMENT = Path.of("../shared/DOC.md");

    public static void main(String[] args) throws IOException {
        String text = withoutComments(Files.readString(SOURCE));
        face();
        classes();
        words(text);
        madeInConstructorsAlone(text);
        shortMethods(text);
        Checks.end();
    }

    private static String withoutComments(String text) {
        return text.replaceAll("(?s)/\\*.*?\\*/", "").replaceAll("//[^\n]*", "");
    }

    /** Rule 1: the document's face and nothing else that others can see. */
    private static void face() throws IOException {
        String document = Files.readString(DOCUMENT);
        String block = document.substring(document.indexOf("public final class NinePots {"));
        block = block.substring(0, block.indexOf("```"));
        Set<String> due = new TreeSet<>();
        Matcher method = Pattern.compile("public int (\\w+)\\(([^)]*)\\);").matcher(block);
        while (method.find()) {
            List<String> types = new ArrayList<>();
            for (String parameter : method.group(2).split(", *")) {
                types.add(parameter.trim().split(" ")[0]);
            }
            due.add("int " + method.group(1) + types);
        }
        Set<String> found = new TreeSet<>();
        Set<String> names = new TreeSet<>();
        for (Method m : NinePots.class.getDeclaredMethods()) {
            if (Modifier.isPublic(m.getModifiers())) {
                List<String> types = new ArrayList<>();
                for (Class<?> type : m.getParameterTypes()) {
                    types.add(type.getName());
                }
                found.add(m.getReturnType() + " " + m.getName() + (types.isEmpty() ? "[]" : types.toString()));
                names.add(m.getName());
            }
        }
        Checks.due("methods of the face", found.size(), 37);
        Checks.holds("the face is " + due + " and not " + found, due.equals(found));
        for (Method m : NinePots.class.getDeclaredMethods()) {
            int is = m.getModifiers();
            Checks.holds(m + " is public or private", Modifier.isPublic(is) || Modifier.isPrivate(is));
            Checks.holds(m + " bears a name of the face", Modifier.isPublic(is) || !names.contains(m.getName()));
        }
        for (Field f : NinePots.class.getDeclaredFields()) {
            Checks.holds(f + " is private", Modifier.isPrivate(f.getModifiers()));
        }
        Checks.due("constructors", NinePots.class.getDeclaredConstructors().length, 1);
        Checks.holds("a final class", Modifier.isFinal(NinePots.class.getModifiers()));
        for (Class<?> inner : NinePots.class.getDeclaredClasses()) {
            for (Method m : inner.getDeclaredMethods()) {
                Checks.holds(m + " bears a name of the face", !names.contains(m.getName()));
            }
        }
    }

    /** Rules 2, 5 and 11: classes inside are static and few, with few fields; static fields are final. */
    private static void classes() {
        List<Class<?>> all = new ArrayList<>(List.of(NinePots.class.getDeclaredClasses()));
        for (Class<?> inner : all) {
            int is = inner.getModifiers();
            Checks.holds(inner + " is static and not public", Modifier.isStatic(is) && !Modifier.isPublic(is));
        }
        all.add(NinePots.class);
        Checks.holds("twelve classes at most", all.size() <= 12);
        for (Class<?> one : all) {
            int fields = 0;
            for (Field f : one.getDeclaredFields()) {
                boolean isStatic = Modifier.isStatic(f.getModifiers());
                fields += isStatic ? 0 : 1;
                Checks.holds(f + " is final", !isStatic || Modifier.isFinal(f.getModifiers()));
            }
            Checks.holds(one + " has twenty fields at most", fields <= 20);
            for (Method m : one.getDeclaredMethods()) {
                Checks.holds(m + " takes seven at most", m.getParameterCount() <= 7);
            }
        }
    }

    /** Rules 2, 4, 6 and 13: what isn't written. */
    private static void words(String text) {
        String[] none = {
            "\\bimport\\b", "\\bpackage\\b", "\\bthrows?\\b", "\\btry\\b", "\\bcatch\\b", "\\bsynchronized\\b", "\\bassert\\b",
            "->", "::", "\\bprotected\\b", "Exact\\b", "\\bjava\\.", "\\bThread\\b", "\\bObject\\b", "\"", "static \\{",
            "\\bMath\\.(?!min\\b|max\\b)", "\\bSystem\\.(?!arraycopy\\b)",
        };
        for (String word : none) {
            Matcher found = Pattern.compile(word).matcher(text);
            Checks.holds("no " + word, !found.find());
        }
    }

    /** One room for all calls: rows are made with the object and never by a call. */
    private static void madeInConstructorsAlone(String text) {
        for (String line : text.split("\n")) {
            boolean makes = line.matches(".*\\bnew\\b.*");
            boolean ofConstructor = line.matches("\\s+(private )?final \\S+ \\w+ = new .*")
                || line.matches("\\s+(sheets\\[i\\]|gone\\[i\\]|scratch) = new .*");
            Checks.holds("made by a constructor: " + line.trim(), !makes || ofConstructor);
        }
    }

    /** Rule 11: a method's lines from its head to the brace that stands under it. */
    private static void shortMethods(String text) {
        String[] lines = text.split("\n");
        for (int i = 0; i < lines.length; i++) {
            Matcher head = Pattern.compile("^(\\s+)[\\w\\[\\] ]+\\(.*\\) \\{$").matcher(lines[i]);
            if (!head.matches() || lines[i].matches("\\s+(if|for|while|switch|return|\\}).*")) {
                continue;
            }
            int end = i;
            while (end < lines.length && !lines[end].equals(head.group(1) + "}")) {
                end++;
            }
            Checks.holds("sixty lines at most: " + lines[i].trim(), end - i < 60);
        }
    }
}
