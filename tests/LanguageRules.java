import java.io.IOException;
import java.lang.reflect.Constructor;
import java.lang.reflect.Field;
import java.lang.reflect.Method;
import java.lang.reflect.Modifier;
import java.nio.file.Files;
import java.nio.file.Path;
import java.util.ArrayList;
import java.util.List;
import java.util.Set;
import java.util.TreeSet;
import java.util.regex.Matcher;
import java.util.regex.Pattern;

/** Rules of ../shared/LANGUAGE.md that can be seen from the source and from the compiled class. */
public final class LanguageRules {
    private static final Path SOURCE = Path.of("src/main/java/FirstPut.java");
    private static final Path DOCUMENT = Path.of("../shared/DOC.md");

    public static void main(String[] args) throws IOException {
        String source = Files.readString(SOURCE);
        String code = source.replaceAll("(?s)/\\*.*?\\*/", " ").replaceAll("//[^\n]*", " ").replaceAll("\"[^\"\n]*\"", "\"\"");
        forbiddenWords(code);
        library(code);
        face();
        classes();
        methodLengths(source);
        Check.finish();
    }

    private static int found(String code, String pattern) {
        Matcher m = Pattern.compile(pattern).matcher(code);
        int n = 0;
        while (m.find()) {
            n++;
        }
        return n;
    }

    private static void forbiddenWords(String code) {
        String[] words = {"throw", "throws", "try", "catch", "finally", "synchronized", "assert", "package", "protected",
            "native", "volatile", "transient", "Exact", "Object", "Exception", "equals", "hashCode", "double", "float"};
        for (String word : words) {
            Check.due("the word " + word, found(code, "\\b" + word + "\\b"), 0);
        }
        Check.due("lambdas and method references", found(code, "->|::"), 0);
        Check.due("joined texts", found(code, "\"\\s*\\+|\\+\\s*\""), 0);
        Check.due("loops without an end", found(code, "while \\(true\\)|for \\(;"), 0);
        Check.due("objects made in methods", found(code, "(?m)^        +return new |^ +[a-z]+ = new "), 0);
    }

    private static void library(String code) {
        Check.due("imports", found(code, "\\bimport\\b"), found(code, "import java\\.util\\.Arrays;"));
        Check.due("functions of Arrays", found(code, "\\bArrays\\."), found(code, "\\bArrays\\.fill\\("));
        Check.due("functions of System", found(code, "\\bSystem\\."), found(code, "\\bSystem\\.arraycopy\\("));
        Check.due("functions of Integer, Long, Math", found(code, "\\b(Integer|Long|Math)\\."), 0);
    }

    /** The face as the document tells it, and nothing else that can be seen from outside. */
    private static void face() throws IOException {
        Set<String> told = new TreeSet<>();
        Matcher m = Pattern.compile("    public (int|long) (\\w+)\\((.*?)\\);").matcher(Files.readString(DOCUMENT));
        while (m.find()) {
            told.add(m.group(1) + " " + m.group(2) + m.group(3).replaceAll("(int|long) \\w+,? ?", " $1"));
        }
        Check.due("calls that the document tells", told.size(), 41);
        Set<String> publicNames = new TreeSet<>();
        List<String> privateNames = new ArrayList<>();
        Set<String> there = new TreeSet<>();
        for (Method method : FirstPut.class.getDeclaredMethods()) {
            if (Modifier.isPrivate(method.getModifiers())) {
                privateNames.add(method.getName());
                continue;
            }
            publicNames.add(method.getName());
            StringBuilder b = new StringBuilder(method.getReturnType() + " " + method.getName());
            for (Class<?> type : method.getParameterTypes()) {
                b.append(' ').append(type);
            }
            there.add(b.toString());
        }
        Check.due("the face " + there, there.equals(told) ? 1 : 0, 1);
        for (Class<?> inside : FirstPut.class.getDeclaredClasses()) {
            for (Method method : inside.getDeclaredMethods()) {
                privateNames.add(method.getName());
            }
        }
        for (String name : privateNames) {
            Check.due("a private method with a public one's name: " + name, publicNames.contains(name) ? 1 : 0, 0);
        }
        for (Constructor<?> made : FirstPut.class.getDeclaredConstructors()) {
            Check.due("constructor " + made, made.getParameterCount(), 0);
        }
    }

    /** A method's lines are those from its head to the brace that stands as far in as the head. */
    private static void methodLengths(String source) {
        Matcher m = Pattern.compile("(?m)^( {4}| {8})(?! |class|enum|record)(?!.*\\b(class|if|for|while|switch)\\b)[^\n;=]*\\) \\{$"
            + "(?s:(.*?))^\\1\\}$").matcher(source);
        int methods = 0;
        while (m.find()) {
            methods++;
            long length = m.group(3).lines().count();
            Check.due("some sixty lines: " + m.group().lines().findFirst().orElse("").trim(), length <= 60 ? 1 : 0, 1);
        }
        Check.due("methods were found", methods > 100 ? 1 : 0, 1);
    }

    private static void classes() {
        List<Class<?>> all = new ArrayList<>(List.of(FirstPut.class.getDeclaredClasses()));
        all.add(FirstPut.class);
        Check.due("some twelve classes", all.size() <= 12 ? 1 : 0, 1);
        for (Class<?> each : all) {
            Check.due("static and final: " + each, Modifier.isFinal(each.getModifiers())
                && (each == FirstPut.class || Modifier.isStatic(each.getModifiers())) ? 1 : 0, 1);
            int fields = 0;
            for (Field field : each.getDeclaredFields()) {
                boolean constant = Modifier.isStatic(field.getModifiers());
                fields += constant ? 0 : 1;
                Check.due("a static field is a constant: " + field, constant && !Modifier.isFinal(field.getModifiers()) ? 1 : 0, 0);
                boolean seen = each == FirstPut.class && !Modifier.isPrivate(field.getModifiers());
                Check.due("a field that can be seen: " + field, seen && !Modifier.isPublic(field.getModifiers()) ? 1 : 0, 0);
            }
            Check.due("some twenty fields: " + each, fields <= 20 ? 1 : 0, 1);
            for (Method method : each.getDeclaredMethods()) {
                Check.due("seven parameters: " + method, method.getParameterCount() <= 7 ? 1 : 0, 1);
            }
        }
    }
}
