import java.util.ArrayList;
import java.util.Arrays;
import java.util.List;

/**
 * Calls on one new object, each with the answer that is due. Behind a call that is refused, objects
 * made by the same calls with and without it are asked for all that can be asked for: the document
 * says that nothing changes. No object is used for more calls than the document allows.
 */
final class Run {
    static final int MOST_CALLS = 512;

    private static final String DONE = "done";
    private static final List<String> CHANGES =
            List.of("leaf", "number", "node", "load", "cofactor", "sample", "clear");

    private static int wrong = 0;
    private static int asked = 0;
    private static int refusals = 0;

    private final String sentence;
    private final SmallChecker object = new SmallChecker();
    /** The calls that made the object what it is. */
    private final List<Call> history = new ArrayList<>();
    private int used = 0;
    private int trees = 0;
    private int rows = 0;

    private record Call(String name, int[] args) {
        @Override
        public String toString() {
            String told = Arrays.toString(args);
            return name + "(" + told.substring(1, told.length() - 1) + ")";
        }
    }

    /** sentence: what the document says, told when an answer is wrong. */
    Run(String sentence) {
        this.sentence = sentence;
    }

    /** Trees 0, 1, 2 are the letters. */
    static Run withLetters(String sentence) {
        Run run = new Run(sentence);
        for (int letter = 0; letter < 3; letter++) {
            run.make("leaf", letter);
        }
        return run;
    }

    /** For the end of main: tells how it went, and fails if an answer was wrong. */
    static void end() {
        System.out.println(asked + " answers, " + refusals + " of them refusals, " + wrong + " not as due");
        if (wrong != 0) {
            System.exit(1);
        }
    }

    /** The number of the tree or row that this call makes. */
    int make(String name, int... args) {
        Call call = new Call(name, args);
        Object answer = answerOf(call);
        if (answer instanceof Integer made) {
            return made;
        }
        tell(call + " answered " + answer + ", due is a number");
        return -1;
    }

    void due(Object want, String name, int... args) {
        Call call = new Call(name, args);
        asked++;
        Object got = answerOf(call);
        if (!got.equals(want)) {
            tell(call + " answered " + got + ", due is " + want);
        }
    }

    void done(String name, int... args) {
        due(DONE, name, args);
    }

    void index(String name, int... args) {
        refused("throws.ArrayIndexOutOfBoundsException", name, args);
    }

    void argument(String name, int... args) {
        refused("throws.IllegalArgumentException", name, args);
    }

    void state(String name, int... args) {
        refused("throws.IllegalStateException", name, args);
    }

    private void refused(String want, String name, int... args) {
        List<Call> without = List.copyOf(history);
        due(want, name, args);
        refusals++;
        dueSame(without, with(without, name, args), "behind the refused " + new Call(name, args));
    }

    /**
     * The answer of a call that only asks. Each question behind it has objects of its own: one that
     * changed something would change it with and without this call.
     */
    void dueUnchanged(Object want, String name, int... args) {
        List<Call> without = List.copyOf(history);
        due(want, name, args);
        List<Call> all = questionsInside();
        all.addAll(questionsAtTheEdge());
        for (Call question : all) {
            dueSame(without, with(without, name, args), List.of(question), List.of(), "behind " + new Call(name, args));
        }
        dueSame(without, with(without, name, args), lastCalls(), List.of(), "behind " + new Call(name, args));
    }

    private static List<Call> with(List<Call> calls, String name, int... args) {
        List<Call> more = new ArrayList<>(calls);
        more.add(new Call(name, args));
        return more;
    }

    /** Whether the object is like one that these calls alone make. */
    void dueLike(Run other) {
        asked++;
        dueSame(other.history, history, "behind all calls");
    }

    /** Whether all that is in the other object is the same in this one, which may have more. */
    void dueLeft(Run other) {
        asked++;
        dueSame(other.history, history, other.questionsInside(), List.of(), "behind all calls");
    }

    int trees() {
        return trees;
    }

    /** How many calls the object has been used for. */
    int used() {
        return used;
    }

    private Object answerOf(Call call) {
        used++;
        if (used > MOST_CALLS) {
            tell("the test uses an object too often");
        }
        Object answer = ask(object, call);
        if (!String.valueOf(answer).startsWith("throws") && CHANGES.contains(call.name)) {
            history.add(call);
            keepCount(call);
        }
        return answer;
    }

    private void keepCount(Call call) {
        switch (call.name) {
            case "leaf", "number", "node" -> trees++;
            case "load" -> rows++;
            case "clear" -> {
                trees = 0;
                rows = 0;
            }
            default -> { }
        }
    }

    private void tell(String what) {
        wrong++;
        int line = 0;
        for (StackTraceElement e : new Throwable().getStackTrace()) {
            if (!e.getClassName().startsWith("Run")) {
                line = e.getLineNumber();
                break;
            }
        }
        System.out.println("\"" + sentence + "\", line " + line + ": " + what);
    }

    private static Object ask(SmallChecker x, Call call) {
        try {
            return answered(x, call.name, call.args);
        } catch (RuntimeException e) {
            // The machine writes such texts; the class must throw by itself.
            boolean byMachine = String.valueOf(e.getMessage()).contains("out of bounds for");
            return (byMachine ? "throws by the machine." : "throws.") + e.getClass().getSimpleName();
        }
    }

    private static Object answered(SmallChecker x, String name, int[] a) {
        switch (name) {
            case "leaf": return x.leaf(a[0]);
            case "number": return x.number(a[0]);
            case "node": return x.node(a[0], a[1], a[2]);
            case "load": return x.load(a[0], a[1], a[2], a[3]);
            case "cofactor": x.cofactor(a[0], a[1]); return DONE;
            case "sample": x.sample(a[0], a[1], a[2]); return DONE;
            case "check": return x.check(a[0], a[1]);
            case "rowAt": return x.rowAt(a[0], a[1]);
            case "counted": return x.counted(a[0]);
            case "terms": return x.terms(a[0]);
            case "term": return x.term(a[0], a[1], a[2], a[3]);
            case "deep": return x.deep(a[0]);
            case "alike": return x.alike(a[0], a[1]);
            case "count": return x.count(a[0]);
            case "clear": x.clear(); return DONE;
            default: throw new Error("no such call: " + name);
        }
    }

    private void dueSame(List<Call> some, List<Call> others, String where) {
        List<Call> all = questionsInside();
        all.addAll(questionsAtTheEdge());
        dueSame(some, others, all, lastCalls(), where);
    }

    /** New objects each time, as one object may not be asked for so much. */
    private void dueSame(List<Call> some, List<Call> others, List<Call> all, List<Call> last, String where) {
        int room = MOST_CALLS - Math.max(some.size(), others.size()) - last.size();
        if (room < 1) {
            tell("the test leaves no room to ask " + where);
            return;
        }
        for (int from = 0; from < all.size(); from += room) {
            List<Call> questions = new ArrayList<>(all.subList(from, Math.min(all.size(), from + room)));
            questions.addAll(last);
            List<Object> want = answers(some, questions);
            List<Object> got = answers(others, questions);
            for (int i = 0; i < want.size(); i++) {
                if (!want.get(i).equals(got.get(i))) {
                    tell(questions.get(i) + " " + where + " answers " + got.get(i) + ", due is " + want.get(i));
                    return;
                }
            }
        }
    }

    private static List<Object> answers(List<Call> made, List<Call> questions) {
        SmallChecker x = new SmallChecker();
        for (Call call : made) {
            ask(x, call);
        }
        List<Object> answers = new ArrayList<>();
        for (Call question : questions) {
            answers.add(ask(x, question));
        }
        return answers;
    }

    /** What can be asked of the trees and rows that are there. */
    private List<Call> questionsInside() {
        List<Call> all = new ArrayList<>();
        for (int t = 0; t < trees; t++) {
            put(all, "terms", t);
            put(all, "deep", t);
            for (int u = 0; u < t; u++) {
                put(all, "alike", t, u);
            }
            for (int key = 0; key < 1000; key++) {
                if (key / 100 + key / 10 % 10 + key % 10 <= 9) {
                    put(all, "term", t, key / 100, key / 10 % 10, key % 10);
                }
            }
        }
        put(all, "check", 0, rows);
        for (int r = 0; r < rows; r++) {
            put(all, "counted", r);
            put(all, "check", r, r + 1);
            for (int what = 0; what < 8; what++) {
                put(all, "rowAt", r, what);
            }
        }
        return all;
    }

    /** How many there are, and what is asked of one too far. */
    private List<Call> questionsAtTheEdge() {
        List<Call> all = new ArrayList<>();
        for (int what = -1; what <= 3; what++) {
            put(all, "count", what);
        }
        for (int t : new int[] {-1, trees}) {
            put(all, "terms", t);
            put(all, "deep", t);
        }
        put(all, "counted", rows);
        put(all, "check", rows, rows + 1);
        put(all, "rowAt", rows, 0);
        return all;
    }

    /** What comes next in the object is the same too. */
    private List<Call> lastCalls() {
        List<Call> all = new ArrayList<>();
        put(all, "leaf", 1);
        put(all, "terms", trees);
        put(all, "load", 6, 0, 0, -1);
        for (int what = 4; what < 8; what++) {
            put(all, "rowAt", rows, what);
        }
        return all;
    }

    private static void put(List<Call> calls, String name, int... args) {
        calls.add(new Call(name, args));
    }

    /** Numbers until there are so many trees. */
    void fillTrees(int many) {
        for (int i = trees; i < many; i++) {
            make("number", i);
        }
    }

    /** Rows that hold until there are so many, about a tree. */
    void fillRows(int many, int tree) {
        for (int i = rows; i < many; i++) {
            make("load", 0, tree, tree, -1);
        }
    }

    /** A number times powers of the letters, which must be the trees 0, 1, 2. */
    int monomial(int v, int i, int j, int k) {
        int product = v == 1 && i + j + k > 0 ? -1 : make("number", v);
        int[] powers = {i, j, k};
        for (int letter = 0; letter < 3; letter++) {
            for (int n = 0; n < powers[letter]; n++) {
                product = product < 0 ? letter : make("node", 2, product, letter);
            }
        }
        return product;
    }

    /** A sum that is not deep. */
    int sum(int... parts) {
        if (parts.length == 1) {
            return parts[0];
        }
        int half = parts.length / 2;
        return make("node", 0, sum(Arrays.copyOf(parts, half)),
                sum(Arrays.copyOfRange(parts, half, parts.length)));
    }

    /** terms: in each the number and the three powers. */
    int polynomial(int[]... terms) {
        int[] parts = new int[terms.length];
        for (int i = 0; i < terms.length; i++) {
            parts[i] = monomial(terms[i][0], terms[i][1], terms[i][2], terms[i][3]);
        }
        return sum(parts);
    }

    /** 1 and the powers of a letter up to one, together. */
    int powersUpTo(int letter, int most) {
        int[] parts = new int[most + 1];
        for (int n = 0; n <= most; n++) {
            parts[n] = monomial(1, letter == 0 ? n : 0, letter == 1 ? n : 0, letter == 2 ? n : 0);
        }
        return sum(parts);
    }

    /** A tree of 40 terms of degrees up to 8, each with the number 1: 5 times 4 times 2. */
    int forty() {
        int ofTwo = make("node", 2, powersUpTo(0, 4), powersUpTo(1, 3));
        return make("node", 2, ofTwo, powersUpTo(2, 1));
    }

    /** (x + y + z + 1)^4, of all 35 terms of a degree up to 4. */
    int allUpToFour() {
        int square = make("node", 3, polynomial(new int[][] {
            {1, 1, 0, 0}, {1, 0, 1, 0}, {1, 0, 0, 1}, {1, 0, 0, 0}}), -1);
        return make("node", 3, square, -1);
    }

    /** Eleven terms which, times the tree above, give all 220 terms of a degree up to 9. */
    int elevenUpToFive() {
        return polynomial(new int[][] {{1, 0, 0, 0}, {1, 0, 0, 5}, {1, 0, 1, 4}, {1, 0, 2, 0}, {1, 0, 3, 2},
            {1, 0, 5, 0}, {1, 1, 0, 3}, {1, 2, 1, 1}, {1, 3, 0, 0}, {1, 3, 2, 0}, {1, 5, 0, 0}});
    }

    /**
     * Two trees of 26 terms: each the product of four of 1 + x + y + z with all signs of x, y, z. Their
     * product is that of all eight, the tree below; 157 different powers meet in it, of which 35 stay.
     */
    int[] halvesOfEight() {
        int one = make("number", 1);
        int[] aboutX = {make("node", 0, one, 0), make("node", 1, one, 0)};
        int[] aboutYZ = {make("node", 0, 1, 2), make("node", 1, 1, 2)};
        int plus = make("node", 0, aboutX[0], aboutYZ[0]);
        int minusZ = make("node", 0, aboutX[0], aboutYZ[1]);
        int minusY = make("node", 1, aboutX[0], aboutYZ[1]);
        int minusXZ = make("node", 0, aboutX[1], aboutYZ[1]);
        int minusYZ = make("node", 1, aboutX[0], aboutYZ[0]);
        int minusX = make("node", 0, aboutX[1], aboutYZ[0]);
        int minusXY = make("node", 1, aboutX[1], aboutYZ[1]);
        int minusAll = make("node", 1, aboutX[1], aboutYZ[0]);
        return new int[] {
            make("node", 2, make("node", 2, plus, minusZ), make("node", 2, minusY, minusXZ)),
            make("node", 2, make("node", 2, minusYZ, minusX), make("node", 2, minusXY, minusAll)),
        };
    }

    /** (1 + x^4 + y^4 + z^4 - 2 (x^2 + y^2 + z^2 + x^2 y^2 + x^2 z^2 + y^2 z^2))^2 - 64 x^2 y^2 z^2 */
    int productOfEight() {
        int one = make("number", 1);
        int[] squares = {make("node", 3, 0, -1), make("node", 3, 1, -1), make("node", 3, 2, -1)};
        int all = sum(one, squares[0], squares[1], squares[2]);
        int fourths = sum(one, make("node", 3, squares[0], -1), make("node", 3, squares[1], -1),
                make("node", 3, squares[2], -1));
        // 2 (..) is the square of the sum of all four less the sum of their squares.
        int root = make("node", 1, make("node", 0, fourths, fourths), make("node", 3, all, -1));
        int last = make("node", 2, make("number", 64),
                make("node", 2, make("node", 2, squares[0], squares[1]), squares[2]));
        return make("node", 1, make("node", 3, root, -1), last);
    }

    /** A tree that is too great. */
    int great() {
        int most = make("number", 1000000);
        return make("node", 0, most, most);
    }
}
