import java.io.IOException;
import java.lang.reflect.Constructor;
import java.lang.reflect.Field;
import java.lang.reflect.Method;
import java.lang.reflect.Modifier;
import java.nio.file.Files;
import java.nio.file.Path;
import java.util.ArrayList;
import java.util.List;
import java.util.Set;
import java.util.TreeSet;
import java.util.regex.Matcher;
import java.util.regex.Pattern;

/** What of LANGUAGE.md and of the document's face can be seen from the text and by reflection. */
public final class LanguageTest {
    private static final Path SOURCE = Path.of("src/main/java/NoArmsCrossed.java");
    private static final Path DOCUMENT = Path.of("../shared/DOC.md");

    public static void main(String[] args) throws IOException {
        String source = Files.readString(SOURCE);
        face(Files.readString(DOCUMENT));
        classes();
        words(withoutComments(source));
        loopsAndMethods(withoutComments(source));
        for (char c : source.toCharArray()) {
            Due.is("a sign of the source", c < 128 ? 1 : 0, 1);
        }
        Due.end("LanguageTest");
    }

    private static String withoutComments(String source) {
        return source.replaceAll("(?s)/\\*.*?\\*/", "").replaceAll("//[^\n]*", "");
    }

    /** Rule 1: just the document's face is not private. */
    private static void face(String document) {
        Set<String> due = new TreeSet<>();
        Matcher m = Pattern.compile("public (int|long) (\\w+)\\(([^)]*)\\);").matcher(document);
        while (m.find()) {
            String types = m.group(3).replaceAll("(int|long|boolean) \\w+", "$1");
            due.add(m.group(1) + " " + m.group(2) + "(" + types + ")");
        }
        Due.is("methods in the document", due.size(), 46);
        Set<String> got = new TreeSet<>();
        Set<String> names = new TreeSet<>();
        for (Method method : NoArmsCrossed.class.getDeclaredMethods()) {
            if (!Modifier.isPrivate(method.getModifiers())) {
                got.add(signature(method));
                names.add(method.getName());
            }
        }
        same("the face", got, due);
        for (Method method : allMethods()) {
            boolean isPrivate = Modifier.isPrivate(method.getModifiers());
            Due.is("a private " + method.getName(), isPrivate && names.contains(method.getName()) ? 1 : 0, 0);
        }
        Constructor<?>[] constructors = NoArmsCrossed.class.getDeclaredConstructors();
        Due.is("constructors", constructors.length, 1);
        Due.is("a public one", Modifier.isPublic(constructors[0].getModifiers()) ? 1 : 0, 1);
        Due.is("final", Modifier.isFinal(NoArmsCrossed.class.getModifiers()) ? 1 : 0, 1);
        Set<String> fields = new TreeSet<>();
        for (Field field : NoArmsCrossed.class.getDeclaredFields()) {
            if (!Modifier.isPrivate(field.getModifiers())) {
                fields.add(field.getName());
            }
        }
        same("fields that are seen", fields, Set.of("NONE"));
    }

    private static String signature(Method method) {
        List<String> types = new ArrayList<>();
        for (Class<?> type : method.getParameterTypes()) {
            types.add(type.getName());
        }
        return method.getReturnType().getName() + " " + method.getName() + "(" + String.join(", ", types) + ")";
    }

    private static void same(String what, Set<String> got, Set<String> due) {
        Due.is(what + ": " + got, got.equals(due) ? 1 : 0, 1);
    }

    private static List<Class<?>> allClasses() {
        List<Class<?>> all = new ArrayList<>(List.of(NoArmsCrossed.class.getDeclaredClasses()));
        all.add(NoArmsCrossed.class);
        return all;
    }

    private static List<Method> allMethods() {
        List<Method> all = new ArrayList<>();
        for (Class<?> c : allClasses()) {
            all.addAll(List.of(c.getDeclaredMethods()));
        }
        return all;
    }

    /** Rules 2, 5 and 11. */
    private static void classes() {
        Due.is("classes, some twelve", allClasses().size() <= 12 ? 1 : 0, 1);
        for (Class<?> c : allClasses()) {
            int own = 0;
            for (Field field : c.getDeclaredFields()) {
                boolean isStatic = Modifier.isStatic(field.getModifiers());
                own += isStatic ? 0 : 1;
                Due.is("static and not final: " + field, isStatic && !Modifier.isFinal(field.getModifiers()) ? 1 : 0, 0);
            }
            Due.is("fields of " + c + ", some twenty", own <= 20 ? 1 : 0, 1);
            boolean isStatic = c == NoArmsCrossed.class || Modifier.isStatic(c.getModifiers());
            Due.is("static: " + c, isStatic ? 1 : 0, 1);
        }
        for (Method method : allMethods()) {
            Due.is("parameters of " + method, method.getParameterCount() <= 7 ? 1 : 0, 1);
        }
    }

    /** Rules 1, 4, 6, 10 and 13. */
    private static void words(String code) {
        String[] none = {"\\bpackage\\b", "\\bimport\\b", "\\bthrow\\b", "\\bthrows\\b", "\\btry\\b", "\\bcatch\\b",
            "\\bassert\\b", "\\bsynchronized\\b", "->", "::", "\\w+Exact\\b", "\\bvar\\b", "\\bfloat\\b", "\\bdouble\\b",
            "\\bequals\\b", "\\bhashCode\\b", "\\btoString\\b", "\\bThread\\b", "\"\\s*\\+", "\\+\\s*\"", "\\bjava\\."};
        for (String word : none) {
            Due.is("not in the language: " + word, Pattern.compile(word).matcher(code).find() ? 1 : 0, 0);
        }
        Matcher calls = Pattern.compile("\\b([A-Z]\\w+)\\.(\\w+)\\(").matcher(code);
        Set<String> library = Set.of("Math.max", "Math.min", "Math.abs", "Integer.bitCount", "Long.bitCount",
            "System.arraycopy", "Plan.isIn");
        while (calls.find()) {
            String call = calls.group(1) + "." + calls.group(2);
            Due.is("of the library: " + call, library.contains(call) ? 1 : 0, 1);
        }
        Matcher made = Pattern.compile("\\bnew (\\w+)").matcher(code);
        Set<String> own = Set.of("Table", "Shelf", "Plan", "Evening", "Reader", "Acts", "int", "long");
        while (made.find()) {
            Due.is("made: " + made.group(1), own.contains(made.group(1)) ? 1 : 0, 1);
        }
    }

    /** Rules 9 and 11: no loop without an end, methods of some sixty lines. */
    private static void loopsAndMethods(String code) {
        Due.is("while (true)", code.contains("while (true)") || code.contains("for (;;)") ? 1 : 0, 0);
        int lines = 0;
        for (String line : code.split("\n")) {
            boolean begins = line.matches("\\s+(public|private|static|boolean|int|long|void|[A-Z]\\w*)\\b[^=;]*\\([^;]*\\{");
            lines = begins ? 0 : lines + 1;
            if (line.matches(" {4,8}\\}")) {
                Due.is("a method of " + lines + " lines", lines <= 60 ? 1 : 0, 1);
                lines = 0;
            }
        }
    }
}
