import java.lang.reflect.Constructor;
import java.lang.reflect.Field;
import java.lang.reflect.Method;
import java.lang.reflect.Modifier;
import java.nio.file.Files;
import java.nio.file.Path;
import java.util.Arrays;
import java.util.Set;
import java.util.TreeSet;
import java.util.regex.Matcher;
import java.util.regex.Pattern;

/** The public face as the document has it, and rules of LANGUAGE.md that can be looked up. */
public final class FaceTest {
    private static final String INDEX = " throws ArrayIndexOutOfBoundsException";
    private static final String[] FACE = {
        "int leaf(int) throws IllegalArgumentException, IllegalStateException",
        "int number(int) throws IllegalArgumentException, IllegalStateException",
        "int node(int, int, int)" + INDEX + ", IllegalArgumentException, IllegalStateException",
        "int load(int, int, int, int)" + INDEX + ", IllegalArgumentException, IllegalStateException",
        "void cofactor(int, int)" + INDEX + ", IllegalArgumentException",
        "void sample(int, int, int)" + INDEX + ", IllegalArgumentException",
        "int check(int, int)" + INDEX,
        "int rowAt(int, int)" + INDEX,
        "int counted(int)" + INDEX,
        "int terms(int)" + INDEX,
        "int term(int, int, int, int)" + INDEX + ", IllegalStateException",
        "int deep(int)" + INDEX,
        "boolean alike(int, int)" + INDEX,
        "int count(int)",
        "void clear()",
    };
    /** Words that no rule of LANGUAGE.md leaves room for in this class. */
    private static final String[] FORBIDDEN = {
        "import", "package", "catch", "finally", "synchronized", "assert", "protected", "->", "::",
        "System", "Random", "Thread", "Exact",
    };

    private static int wrong = 0;

    private static void due(boolean right, String what) {
        if (!right) {
            wrong++;
            System.out.println("not as due: " + what);
        }
    }

    private static String names(Class<?>[] types) {
        StringBuilder all = new StringBuilder();
        for (Class<?> type : types) {
            all.append(all.length() == 0 ? "" : ", ").append(type.getSimpleName());
        }
        return all.toString();
    }

    private static String told(Method m) {
        String thrown = names(m.getExceptionTypes());
        return m.getReturnType().getSimpleName() + " " + m.getName() + "(" + names(m.getParameterTypes())
                + ")" + (thrown.isEmpty() ? "" : " throws " + thrown);
    }

    private static void face() {
        Class<?> c = SmallChecker.class;
        due(Modifier.isPublic(c.getModifiers()) && Modifier.isFinal(c.getModifiers()), "public final");
        Set<String> got = new TreeSet<>();
        Set<String> publicNames = new TreeSet<>();
        for (Method m : c.getDeclaredMethods()) {
            if (!Modifier.isPrivate(m.getModifiers())) {
                due(Modifier.isPublic(m.getModifiers()), m + " is neither public nor private");
                got.add(told(m));
                publicNames.add(m.getName());
            }
        }
        due(got.equals(new TreeSet<>(Arrays.asList(FACE))), "the face: " + got);
        for (Method m : c.getDeclaredMethods()) {
            due(!Modifier.isPrivate(m.getModifiers()) || !publicNames.contains(m.getName()),
                    m + " bears the name of a public one");
        }
        Constructor<?>[] made = c.getDeclaredConstructors();
        due(made.length == 1 && made[0].getParameterCount() == 0
                && Modifier.isPublic(made[0].getModifiers()), "one public constructor");
        for (Field f : c.getDeclaredFields()) {
            due(Modifier.isPrivate(f.getModifiers()), f + " is private");
            due(!Modifier.isStatic(f.getModifiers()) || Modifier.isFinal(f.getModifiers()), f + " is final");
        }
        for (Class<?> inside : c.getDeclaredClasses()) {
            due(Modifier.isStatic(inside.getModifiers()), inside + " is static");
        }
    }

    private static void source() throws Exception {
        String text = Files.readString(Path.of("src/main/java/SmallChecker.java"));
        String code = text.replaceAll("(?s)/\\*.*?\\*/", "").replaceAll("//[^\n]*", "");
        for (String word : FORBIDDEN) {
            due(!code.contains(word), "the source has " + word);
        }
        Matcher thrown = Pattern.compile("throw\\s+(?!new (ArrayIndexOutOfBounds|IllegalArgument|IllegalState)"
                + "Exception\\(\"[^\"]*\"\\);)").matcher(code);
        due(!thrown.find(), "a throw of something else");
    }

    public static void main(String[] args) throws Exception {
        face();
        source();
        System.out.println(wrong == 0 ? "the face is as due" : wrong + " things are not as due");
        if (wrong != 0) {
            System.exit(1);
        }
    }
}
