import java.io.File;
import java.io.IOException;
import java.lang.reflect.InvocationTargetException;
import java.lang.reflect.Method;
import java.net.URL;
import java.net.URLClassLoader;
import java.nio.file.Files;
import java.nio.file.Path;
import java.util.ArrayList;
import java.util.List;
import java.util.regex.Matcher;
import java.util.regex.Pattern;
import javax.tools.ToolProvider;

/** The examples of README.md: each compiles as it stands there, and each call answers what stands behind it. */
public final class ReadmeTest {
    private static final Pattern EXAMPLE = Pattern.compile("(?s)```java\n(.*?)```");
    private static final Pattern CALL = Pattern.compile("(x\\.\\w+\\(.*\\)); +// (-?\\d+):.*");
    private static int calls = 0;

    public static void main(String[] args) throws IOException, ReflectiveOperationException {
        List<String> examples = new ArrayList<>();
        Matcher m = EXAMPLE.matcher(Files.readString(Path.of("README.md")));
        while (m.find()) {
            examples.add(m.group(1));
        }
        Due.is("README.md has examples", examples.isEmpty() ? 0 : 1, 1);
        Path out = Files.createTempDirectory("readme");
        try {
            for (int k = 0; k < examples.size(); k++) {
                play("Example" + k, examples.get(k), out);
            }
        } finally {
            for (File file : out.toFile().listFiles()) {
                file.delete();
            }
            out.toFile().delete();
        }
        Due.is("calls with an answer behind them", calls > 30 ? 1 : 0, 1);
        Due.end("ReadmeTest");
    }

    private static void play(String name, String example, Path out) throws IOException, ReflectiveOperationException {
        Path source = out.resolve(name + ".java");
        Files.writeString(source, asked(name, example));
        String path = System.getProperty("java.class.path");
        int failed = ToolProvider.getSystemJavaCompiler().run(null, null, null, "-cp", path, "-d", out.toString(),
            source.toString());
        Due.is("javac of " + name, failed, 0);
        if (failed != 0) {
            return;
        }
        try (URLClassLoader loader = new URLClassLoader(new URL[] {out.toUri().toURL()})) {
            Method run = loader.loadClass(name).getMethod("run", List.class);
            List<String> wrong = new ArrayList<>();
            try {
                run.invoke(null, wrong);
            } catch (InvocationTargetException e) {
                wrong.add("threw " + e.getCause());
            }
            Due.is(name + " of README.md: " + wrong, wrong.size(), 0);
        }
    }

    /** The example as a class that says which answers are not those behind the calls. */
    private static String asked(String name, String example) {
        StringBuilder code = new StringBuilder("public final class " + name + " {\n");
        code.append("private static void due(java.util.List<String> wrong, String call, long got, long due) {\n");
        code.append("if (got != due) { wrong.add(call + \" answered \" + got); }\n}\n");
        code.append("public static void run(java.util.List<String> wrong) {\n");
        for (String line : example.split("\n")) {
            Matcher m = CALL.matcher(line);
            if (m.matches()) {
                calls++;
                code.append("due(wrong, \"").append(m.group(1)).append("\", ").append(m.group(1)).append(", ");
                code.append(m.group(2)).append(");\n");
            } else {
                code.append(line).append('\n');
            }
        }
        return code.append("}\n}\n").toString();
    }
}
