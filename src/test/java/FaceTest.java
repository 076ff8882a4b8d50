import java.lang.reflect.Constructor;
import java.lang.reflect.Field;
import java.lang.reflect.Method;
import java.lang.reflect.Modifier;
import java.nio.file.Files;
import java.nio.file.Path;
import java.util.List;
import java.util.Set;
import java.util.TreeSet;
import java.util.regex.Matcher;
import java.util.regex.Pattern;

/** The public face as the document has it, and rules of LANGUAGE.md that can be looked up. */
public final class FaceTest {
    private static final Path DOCUMENT = Path.of("../shared/DOC.md");
    private static final Path SOURCE = Path.of("src/main/java/SmallChecker.java");
    private static final String INDEX = " throws ArrayIndexOutOfBoundsException";
    private static final Set<String> FACE = new TreeSet<>(List.of(
            "int leaf(int) throws IllegalArgumentException, IllegalStateException",
            "int number(int) throws IllegalArgumentException, IllegalStateException",
            "int node(int, int, int)" + INDEX + ", IllegalArgumentException, IllegalStateException",
            "int load(int, int, int, int)" + INDEX + ", IllegalArgumentException, IllegalStateException",
            "void cofactor(int, int)" + INDEX + ", IllegalArgumentException",
            "void sample(int, int, int)" + INDEX + ", IllegalArgumentException",
            "int check(int, int)" + INDEX,
            "int rowAt(int, int)" + INDEX,
            "int counted(int)" + INDEX,
            "int terms(int)" + INDEX,
            "int term(int, int, int, int)" + INDEX + ", IllegalStateException",
            "int deep(int)" + INDEX,
            "boolean alike(int, int)" + INDEX,
            "int count(int)",
            "void clear()"));

    /** What the code may not have: the rule's number, and a pattern. */
    private static final String[][] FORBIDDEN = {
        {"the first line", "\\bpackage\\b"},
        {"1", "\\bprotected\\b"},
        {"2", "::"},
        {"2", "(?m)^(?!\\s*(case|default)\\b).*->"},
        {"4", "\\bimport\\b(?!\\s+java\\.util\\.(ArrayList|List|Arrays|Iterator|NoSuchElementException);)"},
        {"4", "\\bSystem\\b(?!\\.arraycopy\\()"},
        {"4", "\\w+Exact\\b"},
        {"5", "\\bstatic\\s*\\{"},
        {"6", "\\b(finally|synchronized|assert|getMessage)\\b"},
        {"6", "\\btry\\s*\\("},
        {"6", "\\bthrow\\b(?!\\s+new (ArrayIndexOutOfBounds|IllegalArgument|IllegalState|IndexOutOfBounds"
            + "|Arithmetic|UnsupportedOperation|NoSuchElement|Runtime)Exception\\((\"[^\"]*\")?\\);)"},
        {"7", "\\bcatch\\s*\\([^)]*\\b(ArrayIndexOutOfBounds|NullPointer|ClassCast|NegativeArraySize|ArrayStore)"},
        {"7", "\\bcatch\\s*\\([^)]*\\b(Exception|Throwable|Error)\\b"},
        {"13", "\\b(Random|Thread|Runtime|Clock|Instant|nanoTime|currentTimeMillis|getenv)\\b"},
    };

    private static int wrong = 0;

    private static void due(boolean right, String what) {
        if (!right) {
            wrong++;
            System.out.println("not as due: " + what);
        }
    }

    private static String names(Class<?>[] types) {
        StringBuilder all = new StringBuilder();
        for (Class<?> type : types) {
            all.append(all.length() == 0 ? "" : ", ").append(type.getSimpleName());
        }
        return all.toString();
    }

    private static String told(Method m) {
        String thrown = names(m.getExceptionTypes());
        return m.getReturnType().getSimpleName() + " " + m.getName() + "(" + names(m.getParameterTypes())
                + ")" + (thrown.isEmpty() ? "" : " throws " + thrown);
    }

    /** The methods that the document's face has, without the names of their parameters. */
    private static Set<String> methodsOfTheDocument() throws Exception {
        Set<String> all = new TreeSet<>();
        Matcher line = Pattern.compile("(?m)^    public (\\w+ \\w+\\(.*);$").matcher(Files.readString(DOCUMENT));
        while (line.find()) {
            all.add(line.group(1).replaceAll("\\bint \\w+(?=[,)])", "int"));
        }
        return all;
    }

    private static Set<String> less(Set<String> some, Set<String> others) {
        Set<String> left = new TreeSet<>(some);
        left.removeAll(others);
        return left;
    }

    /** The tests need the document's tests beside them, but not the document. */
    private static void faceOfTheDocument() throws Exception {
        if (Files.exists(DOCUMENT)) {
            Set<String> told = methodsOfTheDocument();
            due(told.equals(FACE), "the face of this test lacks " + less(told, FACE) + ", and has besides "
                    + less(FACE, told));
        }
    }

    private static void methods() {
        Set<String> got = new TreeSet<>();
        Set<String> publicNames = new TreeSet<>();
        for (Method m : SmallChecker.class.getDeclaredMethods()) {
            if (!Modifier.isPrivate(m.getModifiers())) {
                due(Modifier.isPublic(m.getModifiers()), m + " is neither public nor private");
                due(!Modifier.isStatic(m.getModifiers()), m + " is static");
                got.add(told(m));
                publicNames.add(m.getName());
            }
        }
        due(got.equals(FACE), "the face lacks " + less(FACE, got) + ", and has besides " + less(got, FACE));
        for (Method m : SmallChecker.class.getDeclaredMethods()) {
            due(!Modifier.isPrivate(m.getModifiers()) || !publicNames.contains(m.getName()),
                    m + " bears the name of a public one");
        }
    }

    private static void classAndConstructor() {
        Class<?> c = SmallChecker.class;
        due(Modifier.isPublic(c.getModifiers()) && Modifier.isFinal(c.getModifiers()), "public final");
        due(c.getSuperclass() == Object.class && c.getInterfaces().length == 0, "a class of no other sort");
        Constructor<?>[] made = c.getDeclaredConstructors();
        due(made.length == 1 && made[0].getParameterCount() == 0 && made[0].getExceptionTypes().length == 0
                && Modifier.isPublic(made[0].getModifiers()), "one public constructor");
        for (Class<?> inside : c.getDeclaredClasses()) {
            int how = inside.getModifiers();
            due(Modifier.isStatic(how), inside + " is static");
            due(!Modifier.isPublic(how) && !Modifier.isProtected(how), inside + " is no part of the face");
            fieldsAndParameters(inside);
        }
        due(c.getDeclaredClasses().length < 12, "at most twelve classes");
        fieldsAndParameters(c);
        for (Field f : c.getDeclaredFields()) {
            due(Modifier.isPrivate(f.getModifiers()), f + " is private");
        }
    }

    private static void fieldsAndParameters(Class<?> c) {
        int ofAnObject = 0;
        for (Field f : c.getDeclaredFields()) {
            boolean isStatic = Modifier.isStatic(f.getModifiers());
            due(!isStatic || Modifier.isFinal(f.getModifiers()), f + " is final");
            ofAnObject += isStatic ? 0 : 1;
        }
        due(ofAnObject <= 20, c + " has at most twenty fields");
        for (Method m : c.getDeclaredMethods()) {
            due(m.getParameterCount() <= 7, m + " has at most seven parameters");
        }
    }

    private static void source() throws Exception {
        String code = Files.readString(SOURCE).replaceAll("(?s)/\\*.*?\\*/", "").replaceAll("//[^\n]*", "");
        for (String[] forbidden : FORBIDDEN) {
            Matcher found = Pattern.compile(forbidden[1]).matcher(code);
            if (found.find()) {
                due(false, "rule " + forbidden[0] + " leaves no room for " + found.group());
            }
        }
    }

    public static void main(String[] args) throws Exception {
        faceOfTheDocument();
        methods();
        classAndConstructor();
        source();
        System.out.println(wrong == 0 ? "the face is as due" : wrong + " things are not as due");
        if (wrong != 0) {
            System.exit(1);
        }
    }
}
