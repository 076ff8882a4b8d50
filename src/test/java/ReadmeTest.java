import java.lang.reflect.Method;
import java.lang.reflect.Modifier;
import java.net.URL;
import java.net.URLClassLoader;
import java.nio.file.Files;
import java.nio.file.Path;
import java.util.Set;
import java.util.TreeSet;
import java.util.regex.Matcher;
import java.util.regex.Pattern;
import java.util.stream.Stream;
import javax.tools.ToolProvider;

/** What README.md says of the class and of the tests holds: its example, its tables, its list of tests. */
public final class ReadmeTest {
    private static final Path TESTS = Path.of("src/test/java");
    private static final Pattern TOLD = Pattern.compile("(checker\\.\\w+\\(.*\\));\\s*// (-?\\d+):.*");

    private static int wrong = 0;

    private static void due(boolean right, String what) {
        if (!right) {
            wrong++;
            System.out.println("not as due: " + what);
        }
    }

    private static Set<String> found(String text, String pattern) {
        Set<String> all = new TreeSet<>();
        Matcher m = Pattern.compile(pattern).matcher(text);
        while (m.find()) {
            all.add(m.group(1));
        }
        return all;
    }

    /** The example as a class whose method tells how many of the answers beside the calls are wrong. */
    private static String sourceOfExample(String text) {
        Matcher block = Pattern.compile("(?s)```java\n(.*?)```").matcher(text);
        due(block.find(), "there is an example");
        StringBuilder body = new StringBuilder();
        int told = 0;
        for (String line : block.group(1).split("\n")) {
            Matcher answer = TOLD.matcher(line);
            if (answer.matches()) {
                told++;
                body.append("due(").append(answer.group(2)).append(", ").append(answer.group(1)).append(", \"")
                        .append(answer.group(1)).append("\");\n");
            } else {
                body.append(line.replaceAll("//.*", "")).append("\n");
            }
        }
        due(told >= 10, "the example tells answers");
        return "public final class Example {\n"
                + "private static int wrong = 0;\n"
                + "private static void due(int want, int got, String call) {\n"
                + "if (got != want) { wrong++; System.out.println(call + \" answers \" + got); } }\n"
                + "public static int run() {\n" + body + "return wrong; } }\n";
    }

    private static void example(String text) throws Exception {
        Path folder = Files.createTempDirectory("readme");
        Path source = folder.resolve("Example.java");
        Path compiled = folder.resolve("Example.class");
        Files.writeString(source, sourceOfExample(text));
        int code = ToolProvider.getSystemJavaCompiler().run(null, null, null, "-encoding", "UTF-8",
                "-d", folder.toString(), "-cp", System.getProperty("java.class.path"), source.toString());
        due(code == 0, "the example can be compiled");
        if (code == 0) {
            try (URLClassLoader loader = new URLClassLoader(new URL[] {folder.toUri().toURL()})) {
                Object answers = loader.loadClass("Example").getMethod("run").invoke(null);
                due(answers.equals(0), answers + " answers of the example");
            }
        }
        Files.deleteIfExists(compiled);
        Files.delete(source);
        Files.delete(folder);
    }

    private static void tables(String text) {
        Set<String> calls = new TreeSet<>();
        for (Method m : SmallChecker.class.getDeclaredMethods()) {
            if (Modifier.isPublic(m.getModifiers())) {
                calls.add(m.getName() + " " + m.getParameterCount());
            }
        }
        Set<String> named = new TreeSet<>();
        for (String call : found(text, "(?m)^\\| `(\\w+\\([^)]*\\))` \\|")) {
            String fields = call.substring(call.indexOf('(') + 1, call.length() - 1);
            named.add(call.substring(0, call.indexOf('(')) + " " + (fields.isEmpty() ? 0 : fields.split(",").length));
        }
        due(named.equals(calls), "the table of calls: " + named);
        int kinds = found(text, "(?m)^\\| (\\d+) \\| a, ").size();
        due(kinds == new SmallChecker().count(2), "the table of kinds: " + kinds);
    }

    private static void tests(String text) throws Exception {
        Set<String> there = new TreeSet<>();
        try (Stream<Path> files = Files.list(TESTS)) {
            files.forEach(file -> there.add(file.getFileName().toString().replace(".java", "")));
        }
        Set<String> named = found(text, "`(\\w+Test)`");
        due(named.equals(there), "the tests named are " + named + ", there are " + there);
        for (String path : found(text, "((?:\\bsrc/|\\.ci/|\\.\\./shared/t)[\\w./]*\\w)")) {
            due(Files.exists(Path.of(path)), path + " is there");
        }
        due(Files.isExecutable(Path.of(".ci/run")), ".ci/run can be run");
    }

    public static void main(String[] args) throws Exception {
        String text = Files.readString(Path.of("README.md"));
        example(text);
        tables(text);
        tests(text);
        System.out.println(wrong == 0 ? "README.md is as due" : wrong + " things are not as due");
        if (wrong != 0) {
            System.exit(1);
        }
    }
}
