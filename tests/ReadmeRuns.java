import java.io.ByteArrayOutputStream;
import java.io.IOException;
import java.io.PrintStream;
import java.lang.reflect.Method;
import java.lang.reflect.Modifier;
import java.net.URL;
import java.net.URLClassLoader;
import java.nio.file.Files;
import java.nio.file.Path;
import java.util.ArrayList;
import java.util.Comparator;
import java.util.List;
import java.util.regex.Matcher;
import java.util.regex.Pattern;
import java.util.stream.Stream;
import javax.tools.ToolProvider;

/** README.md's example is compiled and run, and its table of calls is set beside the class's face. */
public final class ReadmeRuns {
    private static final Path PAGE = Path.of("README.md");

    public static void main(String[] args) throws Exception {
        String page = Files.readString(PAGE);
        example(block(page, "java"));
        everyCall(page);
        Check.finish();
    }

    private static String block(String page, String language) {
        Matcher m = Pattern.compile("(?s)```" + language + "\n(.*?)```").matcher(page);
        return m.find() ? m.group(1) : "";
    }

    private static List<String> all(String text, String pattern) {
        List<String> found = new ArrayList<>();
        Matcher m = Pattern.compile(pattern).matcher(text);
        while (m.find()) {
            found.add(m.group(1));
        }
        return found;
    }

    private static void example(String code) throws Exception {
        List<String> due = all(code, "// (-?\\d+)\n");
        Check.due("rows of the example that show an answer", all(code, "\\b(show)\\((?:x|tell)\\b").size(), due.size());
        Path dir = Files.createTempDirectory("readme");
        try {
            List<String> printed = printedBy(code, dir);
            Check.due("rows that the example prints", printed.size(), due.size());
            for (int i = 0; i < Math.min(due.size(), printed.size()); i++) {
                Check.due("row " + i + " of the example", Long.parseLong(printed.get(i)), Long.parseLong(due.get(i)));
            }
        } finally {
            remove(dir);
        }
    }

    private static List<String> printedBy(String code, Path dir) throws Exception {
        Path source = Files.writeString(dir.resolve("Example.java"), code);
        int wrong = ToolProvider.getSystemJavaCompiler().run(null, null, null,
            "-cp", System.getProperty("java.class.path"), "-d", dir.toString(), source.toString());
        Check.due("javac of the example", wrong, 0);
        if (wrong != 0) {
            return List.of();
        }
        ByteArrayOutputStream bytes = new ByteArrayOutputStream();
        PrintStream was = System.out;
        try (URLClassLoader loader = new URLClassLoader(new URL[] {dir.toUri().toURL()})) {
            Method main = loader.loadClass("Example").getMethod("main", String[].class);
            System.setOut(new PrintStream(bytes, true));
            main.invoke(null, (Object) new String[0]);
        } finally {
            System.setOut(was);
        }
        return bytes.toString().lines().toList();
    }

    private static void remove(Path dir) throws IOException {
        try (Stream<Path> inside = Files.walk(dir)) {
            for (Path p : inside.sorted(Comparator.reverseOrder()).toList()) {
                Files.delete(p);
            }
        }
    }

    /** Each call has one row in the table, with as many numbers as it takes; no row tells of a call that there is not. */
    private static void everyCall(String page) {
        List<String> rows = all(page, "\n\\| `(\\w+\\([^)]*\\))` \\|");
        int calls = 0;
        for (Method m : FirstPut.class.getDeclaredMethods()) {
            if (!Modifier.isPublic(m.getModifiers())) {
                continue;
            }
            calls++;
            int told = 0;
            for (String row : rows) {
                String numbers = row.substring(row.indexOf('(') + 1, row.length() - 1);
                int width = numbers.isEmpty() ? 0 : numbers.split(",").length;
                if (row.startsWith(m.getName() + "(") && width == m.getParameterCount()) {
                    told++;
                }
            }
            Check.due("rows of README.md for " + m.getName(), told, 1);
        }
        Check.due("rows of README.md for calls", rows.size(), calls);
    }
}
