import java.io.IOException;
import java.lang.reflect.InvocationTargetException;
import java.lang.reflect.Method;
import java.lang.reflect.Modifier;
import java.net.URL;
import java.net.URLClassLoader;
import java.nio.file.Files;
import java.nio.file.Path;
import java.util.ArrayList;
import java.util.List;
import java.util.TreeSet;
import java.util.regex.Matcher;
import java.util.regex.Pattern;
import java.util.stream.Stream;
import javax.tools.JavaCompiler;
import javax.tools.ToolProvider;

/** README.md: what it shows of the class's use is so, call by call, and it names every test there is. */
public final class ReadmeTests {
    private static final Pattern CALL = Pattern.compile("(.*);\\s*// (-?\\d+)\\b.*");
    private static final Pattern REFUSED = Pattern.compile("(.*);\\s*// throws (\\w+).*");
    private static final Pattern SHOWN = Pattern.compile("mason\\.(\\w+)\\(");
    private static final Pattern TEST = Pattern.compile("`(\\w+Tests)`");
    private static final Pattern COMMENT = Pattern.compile(";\\s*//");
    private static final TreeSet<String> shown = new TreeSet<>();
    private static int answers = 0;

    public static void main(String[] args) throws Exception {
        List<String> page = Files.readAllLines(Path.of("README.md"));
        shownCallsAreSo(page);
        everyCallIsShown();
        everyTestIsNamed(String.join("\n", page));
        Checks.end();
    }

    // The page's Java is loaded apart from the tests, so that only what is public can be used there.

    public interface Call {
        long on();
    }

    public static void is(String call, long due, long got) {
        Checks.is(call, due, got);
    }

    public static void refuses(String call, Class<?> due, Call made) {
        Checks.refuses(call, due, () -> made.on());
    }

    private static void shownCallsAreSo(List<String> page) throws Exception {
        Checks.says("README.md: what it shows of the class's use is so, call by call");
        Path out = Files.createTempDirectory("readme");
        try {
            run(out, programOf(page));
        } finally {
            remove(out);
        }
    }

    /** The page's Java as one program: methods as they stand, and all else in the order shown. */
    private static String programOf(List<String> page) {
        StringBuilder methods = new StringBuilder();
        StringBuilder calls = new StringBuilder();
        boolean inside = false;
        StringBuilder part = calls;
        for (String line : page) {
            if (line.startsWith("```")) {
                inside = line.equals("```java");
                part = calls;
            } else if (inside) {
                part = line.startsWith("static ") ? methods : part;
                part.append(checked(line)).append('\n');
            }
        }
        return "import java.util.NoSuchElementException;\npublic final class ReadmeExample {\n" + methods
                + "public static void main(String[] args) {\n" + calls + "}\n}\n";
    }

    /** A line of the page, made to hold the answer that it shows against the one that comes. */
    private static String checked(String line) {
        Matcher refused = REFUSED.matcher(line);
        Matcher call = CALL.matcher(line);
        if (refused.matches()) {
            note(line);
            return "ReadmeTests.refuses(\"" + quoted(refused.group(1)) + "\", " + refused.group(2) + ".class, () -> "
                    + refused.group(1) + ");";
        }
        if (call.matches()) {
            note(line);
            return "ReadmeTests.is(\"" + quoted(call.group(1)) + "\", " + call.group(2) + ", " + call.group(1) + ");";
        }
        Checks.is("answers that can't be read in '" + line + "'", 0, COMMENT.matcher(line).find() ? 1 : 0);
        return line;
    }

    private static void note(String line) {
        answers++;
        Matcher matcher = SHOWN.matcher(line);
        while (matcher.find()) {
            shown.add(matcher.group(1));
        }
    }

    private static String quoted(String code) {
        return code.replace("\\", "\\\\").replace("\"", "\\\"");
    }

    private static void run(Path out, String program) throws Exception {
        Path file = out.resolve("ReadmeExample.java");
        Files.writeString(file, program);
        JavaCompiler javac = ToolProvider.getSystemJavaCompiler();
        String classes = System.getProperty("java.class.path");
        int failed = javac.run(null, null, null, "-cp", classes, "-d", out.toString(), file.toString());
        Checks.is("javac of the page's Java", 0, failed);
        if (failed != 0) {
            return;
        }
        ClassLoader tests = ReadmeTests.class.getClassLoader();
        try (URLClassLoader loader = new URLClassLoader(new URL[] {out.toUri().toURL()}, tests)) {
            Method main = loader.loadClass("ReadmeExample").getMethod("main", String[].class);
            main.invoke(null, (Object) new String[0]);
        } catch (InvocationTargetException e) {
            Checks.same("what the page's Java ends with", "nothing thrown", String.valueOf(e.getCause()));
        }
    }

    private static void remove(Path out) throws IOException {
        try (Stream<Path> files = Files.list(out)) {
            for (Path file : files.toList()) {
                Files.delete(file);
            }
        }
        Files.delete(out);
    }

    private static void everyCallIsShown() {
        Checks.says("README.md says how to use the class");
        TreeSet<String> face = new TreeSet<>();
        for (Method method : FrostMason.class.getDeclaredMethods()) {
            if (Modifier.isPublic(method.getModifiers())) {
                face.add(method.getName());
            }
        }
        Checks.same("the calls shown with their answers", face.toString(), shown.toString());
        Checks.is("more answers than calls of the face", 1, answers > face.size() ? 1 : 0);
    }

    private static void everyTestIsNamed(String page) throws IOException {
        Checks.says("README.md: a reader who does what it says runs every test");
        List<String> tests = new ArrayList<>();
        try (Stream<Path> files = Files.list(Path.of("src/test/java"))) {
            files.map(file -> file.getFileName().toString()).filter(name -> name.endsWith("Tests.java")).sorted()
                    .forEach(name -> tests.add(name.replace(".java", "")));
        }
        TreeSet<String> named = new TreeSet<>();
        Matcher matcher = TEST.matcher(page);
        while (matcher.find()) {
            named.add(matcher.group(1));
        }
        Checks.same("the tests named", tests.toString(), named.toString());
        Checks.is(".ci/run is named", 1, page.contains("\n    .ci/run\n") ? 1 : 0);
        Checks.is(".ci/run can be run", 1, Files.isExecutable(Path.of(".ci/run")) ? 1 : 0);
    }
}
