import java.io.IOException;
import java.lang.reflect.Constructor;
import java.lang.reflect.Field;
import java.lang.reflect.Method;
import java.lang.reflect.Modifier;
import java.nio.file.Files;
import java.nio.file.Path;
import java.util.Arrays;
import java.util.Set;
import java.util.TreeSet;
import java.util.stream.Collectors;

/** The public face is the code block of the document, and what reflection can tell of LANGUAGE.md holds. */
final class FaceTests {
    private FaceTests() {
    }

    static void run() {
        face();
        members();
        source();
    }

    private static String read(String path) {
        try {
            return Files.readString(Path.of(path));
        } catch (IOException unreadable) {
            Check.that(path + " can be read", false);
            return "";
        }
    }

    private static String typeNames(Class<?>[] types) {
        return Arrays.stream(types).map(Class::getSimpleName).collect(Collectors.joining(", "));
    }

    private static void face() {
        Set<String> due = new TreeSet<>();
        for (String line : read("../shared/DOC.md").split("\n")) {
            if (line.startsWith("    public ") && line.contains("(")) {
                due.add(line.strip().replaceAll("(int|boolean) \\w+(?=[,)])", "$1").replace(";", ""));
            }
        }
        Set<String> got = new TreeSet<>();
        for (Method method : WatchLodgers.class.getDeclaredMethods()) {
            if (!Modifier.isPrivate(method.getModifiers()) && !method.isSynthetic()) {
                String thrown = typeNames(method.getExceptionTypes());
                got.add(Modifier.toString(method.getModifiers()) + " " + method.getReturnType().getSimpleName() + " "
                        + method.getName() + "(" + typeNames(method.getParameterTypes()) + ")"
                        + (thrown.isEmpty() ? "" : " throws " + thrown));
            }
        }
        for (Constructor<?> constructor : WatchLodgers.class.getDeclaredConstructors()) {
            got.add(Modifier.toString(constructor.getModifiers()) + " WatchLodgers("
                    + typeNames(constructor.getParameterTypes()) + ")");
        }
        Check.same("calls of the face", due.size(), 65);
        Check.same("the face", got.toString(), due.toString());
        Check.same("the class", Modifier.toString(WatchLodgers.class.getModifiers()), "public final");
    }

    private static void members() {
        Set<String> publicNames = new TreeSet<>();
        for (Method method : WatchLodgers.class.getMethods()) {
            publicNames.add(method.getName());
        }
        for (Field field : WatchLodgers.class.getDeclaredFields()) {
            boolean shown = !Modifier.isPrivate(field.getModifiers());
            Check.that("field " + field.getName() + " is private, but for NONE", shown == field.getName().equals("NONE"));
        }
        checkClass(WatchLodgers.class, publicNames);
        Class<?>[] inside = WatchLodgers.class.getDeclaredClasses();
        Check.that("some twelve classes", inside.length < 12);
        for (Class<?> nested : inside) {
            Check.that(nested + " is private and static", Modifier.isPrivate(nested.getModifiers())
                    && Modifier.isStatic(nested.getModifiers()));
            checkClass(nested, publicNames);
            for (Method method : nested.getDeclaredMethods()) {
                Check.that(method + " has no name of the face", !publicNames.contains(method.getName()));
            }
        }
    }

    private static void checkClass(Class<?> type, Set<String> publicNames) {
        int fields = 0;
        for (Field field : type.getDeclaredFields()) {
            boolean constant = Modifier.isStatic(field.getModifiers());
            Check.that(field + " is final if it is static", !constant || Modifier.isFinal(field.getModifiers()));
            fields += constant ? 0 : 1;
        }
        Check.that(type + " has some twenty fields", fields <= 20);
        for (Method method : type.getDeclaredMethods()) {
            Check.that(method + " takes at most seven parameters", method.getParameterCount() <= 7);
            Check.that(method + " has no public name if it is private", !Modifier.isPrivate(method.getModifiers())
                    || !publicNames.contains(method.getName()));
        }
    }

    private static void source() {
        String source = read("src/main/java/WatchLodgers.java");
        for (String line : source.split("\n")) {
            Check.that("import: " + line, !line.startsWith("import ") || line.equals("import java.util.Arrays;"));
        }
        String code = source.replaceAll("(?s)/\\*.*?\\*/", "").replaceAll("//[^\n]*", "");
        for (String word : new String[] {"catch", "finally", "synchronized", "assert", "instanceof", "package"}) {
            Check.that("no " + word, !code.matches("(?s).*\\b" + word + "\\b.*"));
        }
        Check.that("no lambda", !code.contains("->"));
        Check.that("no method reference", !code.contains("::"));
        Check.that("only signs 1 to 127", source.chars().allMatch(sign -> sign >= 1 && sign <= 127));
    }
}
