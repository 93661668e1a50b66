import java.io.IOException;
import java.lang.reflect.Method;
import java.lang.reflect.Modifier;
import java.net.URL;
import java.net.URLClassLoader;
import java.nio.file.Files;
import java.nio.file.Path;
import java.util.ArrayList;
import java.util.Comparator;
import java.util.List;
import java.util.Set;
import java.util.TreeSet;
import java.util.concurrent.Callable;
import java.util.regex.Matcher;
import java.util.regex.Pattern;
import java.util.stream.Stream;
import javax.tools.ToolProvider;

/** README.md: its example answers as it says, and its tables name every call with just what it throws. Runs in the project's folder. */
public final class ReadmeTest {
    private static final Pattern ROW = Pattern.compile("\\| `(\\w+)\\(([^)]*)\\)` \\| (.+) \\| (.+) \\|");
    private static final Pattern ANSWERED = Pattern.compile("(.+);\\s+// (-?\\d+|throws \\w+)(:.*)?");
    private static int checks;
    private static int wrong;

    public static void main(String[] args) throws Exception {
        String readme = Files.readString(Path.of("README.md"));
        tables(readme);
        example(readme);
        theTestsAreNamed(readme);
        System.out.println("ReadmeTest: " + checks + " checks, " + wrong + " wrong");
        if (wrong > 0) {
            System.exit(1);
        }
    }

    private static void need(boolean holds, String what) {
        checks++;
        if (!holds) {
            wrong++;
            System.out.println("ReadmeTest: " + what);
        }
    }

    private static void tables(String readme) {
        Set<String> named = new TreeSet<>();
        for (String line : readme.split("\n")) {
            Matcher row = ROW.matcher(line);
            if (row.matches()) {
                need(named.add(row.group(1)), row.group(1) + " is named twice");
                need(isCall(row.group(1), row.group(2), row.group(4)), "not as in the class: " + line);
            }
        }
        for (Method m : WornThings.class.getDeclaredMethods()) {
            need(!Modifier.isPublic(m.getModifiers()) || named.contains(m.getName()), m.getName() + " is not named");
        }
    }

    private static boolean isCall(String name, String parameters, String thrown) {
        int many = parameters.isEmpty() ? 0 : parameters.split(", ").length;
        for (Method m : WornThings.class.getDeclaredMethods()) {
            if (m.getName().equals(name) && Modifier.isPublic(m.getModifiers())) {
                StringBuilder due = new StringBuilder();
                for (Class<?> e : m.getExceptionTypes()) {
                    due.append(due.length() == 0 ? "" : ", ").append(e.getSimpleName());
                }
                String told = due.length() == 0 ? "-" : due.toString();
                return m.getParameterCount() == many && (thrown.equals(told) || thrown.startsWith(told + ": "));
            }
        }
        return false;
    }

    /** The page's Java becomes a class of its own: its helper as it stands, its lines with an answer as things to call. */
    private static void example(String readme) throws Exception {
        List<String> helper = new ArrayList<>();
        List<String> lines = new ArrayList<>();
        for (String block : blocks(readme)) {
            (block.startsWith("static ") ? helper : lines).add(block);
        }
        StringBuilder source = new StringBuilder("public final class Example {\n" + String.join("\n", helper)
            + "\npublic static void fill(java.util.List<java.util.concurrent.Callable<Object>> calls) {\n");
        List<String> due = new ArrayList<>();
        List<String> told = new ArrayList<>();
        for (String line : String.join("\n", lines).split("\n")) {
            Matcher m = ANSWERED.matcher(line);
            boolean answered = m.matches();
            source.append(answered ? "calls.add(() -> " + m.group(1) + ");\n" : line + "\n");
            if (answered) {
                told.add(m.group(1));
                due.add(m.group(2));
            }
        }
        List<Callable<Object>> calls = compiled(source.append("}\n}\n").toString());
        need(calls.size() >= 10 && calls.size() == due.size(), "the example has answers");
        for (int i = 0; i < Math.min(calls.size(), due.size()); i++) {
            String got = answer(calls.get(i));
            need(got.equals(due.get(i)), told.get(i) + " answered " + got + ", README.md says " + due.get(i));
        }
    }

    private static List<String> blocks(String readme) {
        List<String> all = new ArrayList<>();
        Matcher m = Pattern.compile("(?s)```java\n(.*?)```").matcher(readme);
        while (m.find()) {
            all.add(m.group(1));
        }
        return all;
    }

    private static List<Callable<Object>> compiled(String source) throws Exception {
        List<Callable<Object>> calls = new ArrayList<>();
        Path folder = Files.createTempDirectory("readme");
        try {
            Path file = folder.resolve("Example.java");
            Files.writeString(file, source);
            int code = ToolProvider.getSystemJavaCompiler().run(null, null, null,
                "-cp", System.getProperty("java.class.path"), "-d", folder.toString(), file.toString());
            need(code == 0, "the example does not compile");
            if (code == 0) {
                try (URLClassLoader loader = new URLClassLoader(new URL[] {folder.toUri().toURL()})) {
                    loader.loadClass("Example").getMethod("fill", List.class).invoke(null, calls);
                }
            }
        } finally {
            remove(folder);
        }
        return calls;
    }

    private static void remove(Path folder) throws IOException {
        try (Stream<Path> all = Files.walk(folder)) {
            for (Path p : all.sorted(Comparator.reverseOrder()).toList()) {
                Files.delete(p);
            }
        }
    }

    private static String answer(Callable<Object> call) {
        try {
            return String.valueOf(call.call());
        } catch (Exception e) {
            return "throws " + e.getClass().getSimpleName();
        }
    }

    private static void theTestsAreNamed(String readme) throws IOException {
        try (Stream<Path> all = Files.list(Path.of("src/test/java"))) {
            for (Path p : all.toList()) {
                String name = p.getFileName().toString().replace(".java", "");
                need(!name.endsWith("Test") || readme.contains("`" + name), name + " is not named");
            }
        }
    }
}
