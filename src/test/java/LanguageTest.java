import java.io.IOException;
import java.lang.reflect.Method;
import java.lang.reflect.Modifier;
import java.nio.file.Files;
import java.nio.file.Path;
import java.util.HashSet;
import java.util.Set;

/** Some rules of LANGUAGE.md that can be seen by a machine: the class's face, and words that are ruled out. */
public final class LanguageTest {
    private static final int FACE = 43;
    private static final int MOST_LINES = 60;
    private static final int MOST_CLASSES = 12;

    public static void main(String[] args) throws IOException {
        face();
        words(Files.readString(Path.of("src/main/java/Granary.java")));
        Check.end();
    }

    private static void face() {
        int modifiers = Granary.class.getModifiers();
        Check.same("rule 1, public and final", Modifier.isPublic(modifiers) && Modifier.isFinal(modifiers), true);
        Check.same("rule 1, constructors", Granary.class.getDeclaredConstructors().length, 1);
        Check.same("rule 11, classes", Granary.class.getDeclaredClasses().length < MOST_CLASSES, true);
        Set<String> shown = new HashSet<>();
        for (Method method : Granary.class.getDeclaredMethods()) {
            if (Modifier.isPublic(method.getModifiers())) {
                shown.add(method.getName());
            } else {
                Check.same("rule 1, private " + method, Modifier.isPrivate(method.getModifiers()), true);
            }
        }
        Check.same("rule 1, public methods", shown.size(), FACE);
        for (Class<?> inside : Granary.class.getDeclaredClasses()) {
            Check.same("rule 1, static " + inside, Modifier.isStatic(inside.getModifiers()), true);
            Check.same("rule 1, not public " + inside, Modifier.isPublic(inside.getModifiers()), false);
            privateNames(inside, shown);
        }
        privateNames(Granary.class, shown);
    }

    private static void privateNames(Class<?> of, Set<String> shown) {
        for (Method method : of.getDeclaredMethods()) {
            if (!Modifier.isPublic(method.getModifiers())) {
                Check.same("rule 1, name of " + method, shown.contains(method.getName()), false);
            }
            Check.same("rule 11, parameters of " + method, method.getParameterCount() <= 7, true);
        }
    }

    private static void words(String source) {
        String[] ruledOut = {"import ", "package ", "->", "::", "Exact", "finally", "catch", "synchronized", "assert ",
            "Integer.MAX_VALUE", "Integer.MIN_VALUE", "Long.M", "System.out", "Object", "\"+", "\" +"};
        for (String word : ruledOut) {
            Check.same("LANGUAGE.md rules out " + word, source.contains(word), false);
        }
        int length = 0;
        for (String line : source.split("\n")) {
            boolean starts = line.matches(" {4,8}[^ /*@}].*[{,)]");
            length = starts ? 0 : length + 1;
            if (line.matches(" {4,8}}")) {
                Check.same("rule 11, lines of the method that ends with them", length <= MOST_LINES, true);
            }
            for (int at = 0; at < line.length(); at++) {
                Check.same("a sign beyond 127", line.charAt(at) < 128, true);
            }
        }
    }
}
