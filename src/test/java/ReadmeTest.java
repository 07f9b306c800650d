import java.io.File;
import java.io.IOException;
import java.lang.reflect.Method;
import java.lang.reflect.Modifier;
import java.net.URL;
import java.net.URLClassLoader;
import java.nio.file.Files;
import java.nio.file.Path;
import java.util.ArrayList;
import java.util.Comparator;
import java.util.List;
import java.util.regex.Matcher;
import java.util.regex.Pattern;
import java.util.stream.Stream;
import javax.tools.ToolProvider;

/** What README.md says of the class: its example compiles and answers as told there, and it names every call. */
public final class ReadmeTest extends Checks {
    /** A row that tells its answer: perhaps a name for it, the call, the answer. */
    private static final Pattern ROW = Pattern.compile("((?:int|long) (\\w+) = )?(x\\.\\w+\\([^;]*\\)); *// (-?\\d+)\\b.*");
    private static final int LEAST_ROWS = 20;

    private static final List<String> calls = new ArrayList<>();
    private static final List<Long> told = new ArrayList<>();

    public static void main(String[] args) throws IOException, ReflectiveOperationException {
        begin("README.md");
        String text = Files.readString(Path.of("README.md"));
        everyCallIsNamed(text);
        Matcher example = Pattern.compile("(?s)```java\n(.*?)```").matcher(text);
        boolean found = example.find();
        must(found, "there is an example");
        if (found) answersAreAsTold(program(example.group(1)));
        end("the README tells what is so");
    }

    private static void everyCallIsNamed(String text) {
        for (Method m : OldBeams.class.getDeclaredMethods()) {
            if (Modifier.isPublic(m.getModifiers())) must(text.contains("`" + m.getName() + "`"), m.getName() + " is named");
        }
    }

    /** The example as a class whose one method answers what its rows answered, in their order. */
    private static String program(String example) {
        StringBuilder code = new StringBuilder("public final class Example {\n  public static long[] answers() {\n    long[] got = new long[999];\n");
        for (String line : example.split("\n")) {
            Matcher row = ROW.matcher(line);
            if (!row.matches()) {
                must(!line.startsWith("x.") && !line.startsWith("int "), "the row tells its answer: " + line);
                code.append(line).append('\n');
                continue;
            }
            String answer = row.group(3);
            if (row.group(1) != null) {
                code.append(row.group(1)).append(answer).append(";\n");
                answer = row.group(2);
            }
            code.append("got[").append(calls.size()).append("] = ").append(answer).append(";\n");
            calls.add(row.group(3));
            told.add(Long.valueOf(row.group(4)));
        }
        return code.append("    return got;\n  }\n}\n").toString();
    }

    private static void answersAreAsTold(String program) throws IOException, ReflectiveOperationException {
        must(calls.size() >= LEAST_ROWS, "the example has its rows: " + calls.size());
        Path folder = Files.createTempDirectory("readme");
        try {
            Path file = Files.writeString(folder.resolve("Example.java"), program);
            int compiled = ToolProvider.getSystemJavaCompiler().run(null, null, null,
                "-cp", System.getProperty("java.class.path"), "-d", folder.toString(), file.toString());
            must(compiled == 0, "the example compiles");
            if (compiled == 0) compare(folder);
        } finally {
            remove(folder);
        }
    }

    private static void compare(Path folder) throws IOException, ReflectiveOperationException {
        try (URLClassLoader loader = new URLClassLoader(new URL[] {folder.toUri().toURL()})) {
            long[] got = (long[]) loader.loadClass("Example").getMethod("answers").invoke(null);
            for (int i = 0; i < calls.size(); i++) due(calls.get(i), got[i], told.get(i));
        }
    }

    private static void remove(Path folder) throws IOException {
        try (Stream<Path> files = Files.walk(folder)) {
            files.sorted(Comparator.reverseOrder()).map(Path::toFile).forEach(File::delete);
        }
    }
}
