import java.util.concurrent.Callable;

/** One method for each promise of the document: ordinary inputs, edges, wrong inputs. */
public final class PromisesTest {
    private static final Class<?> INDEX = ArrayIndexOutOfBoundsException.class;
    private static final Class<?> ARGUMENT = IllegalArgumentException.class;
    private static final Class<?> STATE = IllegalStateException.class;

    private static int wrong = 0;
    private static int asked = 0;
    private static int promise = 0;

    /** An action that answers nothing. */
    private interface Action {
        void run();
    }

    private static void tell(Object got, Object want) {
        asked++;
        if (!got.equals(want)) {
            wrong++;
            StackTraceElement[] trace = new Throwable().getStackTrace();
            int line = 0;
            for (StackTraceElement e : trace) {
                if (e.getMethodName().startsWith("promise")) {
                    line = e.getLineNumber();
                    break;
                }
            }
            System.out.println("promise " + promise + ", line " + line + ": " + got + ", due is " + want);
        }
    }

    private static Object answerOf(Callable<Object> call) {
        try {
            return call.call();
        } catch (Exception e) {
            // The machine writes such texts; the class must throw by itself.
            boolean byMachine = String.valueOf(e.getMessage()).contains("out of bounds for");
            return byMachine ? "thrown by the machine" : e.getClass();
        }
    }

    /** want: the answer, or the class of the exception. */
    private static void due(Object want, Callable<Object> call) {
        tell(answerOf(call), want);
    }

    private static void dueDone(Action action) {
        dueEnd("done", action);
    }

    private static void dueEnd(Object want, Action action) {
        tell(answerOf(() -> {
            action.run();
            return "done";
        }), want);
    }

    /** Trees 0, 1, 2: the letters; 3: the number 1; 4: the number 2. */
    private static SmallChecker withLetters() {
        SmallChecker x = new SmallChecker();
        x.leaf(0);
        x.leaf(1);
        x.leaf(2);
        x.number(1);
        x.number(2);
        return x;
    }

    private static SmallChecker withTrees(int many) {
        SmallChecker x = new SmallChecker();
        for (int i = 0; i < many; i++) {
            x.number(i);
        }
        return x;
    }

    /** A letter and opposites of it on top; tree i is i deep. */
    private static SmallChecker withTower(int deep) {
        SmallChecker x = new SmallChecker();
        x.leaf(0);
        for (int i = 0; i < deep; i++) {
            x.node(4, i, -1);
        }
        return x;
    }

    /** 1 and the powers of a letter up to one, together. */
    private static int powersUpTo(SmallChecker x, int letter, int most) {
        int base = x.leaf(letter);
        int power = x.number(1);
        int all = power;
        for (int i = 1; i <= most; i++) {
            power = x.node(2, power, base);
            all = x.node(0, all, power);
        }
        return all;
    }

    /** 5 powers of one letter times 4 of another times 2 of the third. */
    private static int treeOfFortyTerms(SmallChecker x) {
        int ofTwo = x.node(2, powersUpTo(x, 0, 4), powersUpTo(x, 1, 3));
        return x.node(2, ofTwo, powersUpTo(x, 2, 1));
    }

    private static void promise1() {
        SmallChecker x = new SmallChecker();
        due(0, () -> x.count(0));
        due(0, () -> x.count(1));
        due(INDEX, () -> x.terms(0));
        due(INDEX, () -> x.rowAt(0, 0));
        due(0, () -> x.check(0, 0));
        SmallChecker y = new SmallChecker();
        y.leaf(0);
        due(0, () -> x.count(0));
    }

    private static void promise2() {
        SmallChecker x = new SmallChecker();
        due(0, () -> x.leaf(0));
        due(1, () -> x.leaf(1));
        due(2, () -> x.leaf(2));
        due(3, () -> x.leaf(0));
        due(1, () -> x.term(0, 1, 0, 0));
        due(1, () -> x.term(1, 0, 1, 0));
        due(1, () -> x.term(2, 0, 0, 1));
        due(0, () -> x.term(2, 0, 1, 0));
        due(1, () -> x.terms(3));
        due(ARGUMENT, () -> x.leaf(3));
        due(ARGUMENT, () -> x.leaf(-1));
        due(ARGUMENT, () -> x.leaf(Integer.MIN_VALUE));
        due(ARGUMENT, () -> x.leaf(Integer.MAX_VALUE));
        due(4, () -> x.count(0));
        SmallChecker full = withTrees(119);
        due(119, () -> full.leaf(2));
        due(STATE, () -> full.leaf(2));
        due(ARGUMENT, () -> full.leaf(3));
        due(120, () -> full.count(0));
    }

    private static void promise3() {
        SmallChecker x = new SmallChecker();
        due(0, () -> x.number(1000000));
        due(1, () -> x.number(-1000000));
        due(2, () -> x.number(0));
        due(1000000, () -> x.term(0, 0, 0, 0));
        due(-1000000, () -> x.term(1, 0, 0, 0));
        due(0, () -> x.terms(2));
        due(ARGUMENT, () -> x.number(1000001));
        due(ARGUMENT, () -> x.number(-1000001));
        due(ARGUMENT, () -> x.number(Integer.MIN_VALUE));
        due(ARGUMENT, () -> x.number(Integer.MAX_VALUE));
        due(3, () -> x.count(0));
        SmallChecker full = withTrees(120);
        due(STATE, () -> full.number(0));
        due(ARGUMENT, () -> full.number(1000001));
        due(119, () -> full.term(119, 0, 0, 0));
    }

    private static void promise4() {
        SmallChecker x = withLetters();
        due(5, () -> x.node(0, 0, 1));
        due(6, () -> x.node(1, 0, 1));
        due(7, () -> x.node(2, 5, 6));
        due(8, () -> x.node(3, 6, -1));
        due(9, () -> x.node(4, 6, -1));
        due(10, () -> x.node(5, 6, -1));
        due(1, () -> x.term(5, 0, 1, 0));
        due(-1, () -> x.term(6, 0, 1, 0));
        due(2, () -> x.terms(7));
        due(-1, () -> x.term(7, 0, 2, 0));
        due(-2, () -> x.term(8, 1, 1, 0));
        due(-1, () -> x.term(9, 1, 0, 0));
        due(1, () -> x.term(9, 0, 1, 0));
        due(3, () -> x.term(10, 1, 2, 0));
        due(-3, () -> x.term(10, 2, 1, 0));
        due(-1, () -> x.term(10, 0, 3, 0));
        promise4Wrong(x);
        promise4Deep();
        promise4TooGreat();
    }

    private static void promise4Wrong(SmallChecker x) {
        int before = x.count(0);
        due(INDEX, () -> x.node(0, before, 0));
        due(INDEX, () -> x.node(0, 0, before));
        due(INDEX, () -> x.node(0, -1, 0));
        due(INDEX, () -> x.node(2, 0, -1));
        due(INDEX, () -> x.node(3, -1, -1));
        due(INDEX, () -> x.node(3, 0, before));
        due(INDEX, () -> x.node(5, 0, -2));
        due(INDEX, () -> x.node(6, before, -1));
        due(INDEX, () -> x.node(6, 0, before));
        due(INDEX, () -> x.node(-1, 0, -1));
        due(INDEX, () -> x.node(0, Integer.MIN_VALUE, Integer.MAX_VALUE));
        due(ARGUMENT, () -> x.node(6, 0, -1));
        due(ARGUMENT, () -> x.node(6, 0, 0));
        due(ARGUMENT, () -> x.node(-1, 0, 0));
        due(ARGUMENT, () -> x.node(3, 0, 0));
        due(ARGUMENT, () -> x.node(4, 0, 1));
        due(ARGUMENT, () -> x.node(5, 0, 2));
        due(ARGUMENT, () -> x.node(Integer.MAX_VALUE, 0, -1));
        due(before, () -> x.count(0));
    }

    private static void promise4Deep() {
        SmallChecker x = withTower(20);
        due(20, () -> x.deep(20));
        due(ARGUMENT, () -> x.node(4, 20, -1));
        due(ARGUMENT, () -> x.node(0, 20, 0));
        due(ARGUMENT, () -> x.node(0, 0, 20));
        due(21, () -> x.node(0, 0, 19));
        due(20, () -> x.deep(21));
        while (x.count(0) < 120) {
            x.leaf(0);
        }
        due(STATE, () -> x.node(0, 0, 1));
        due(ARGUMENT, () -> x.node(4, 20, -1));
        due(ARGUMENT, () -> x.node(9, 0, -1));
        due(INDEX, () -> x.node(0, 120, 0));
        due(120, () -> x.count(0));
    }

    private static void promise4TooGreat() {
        SmallChecker x = withLetters();
        x.number(1000000);
        x.node(0, 5, 3);
        due(-1, () -> x.terms(6));
        x.node(1, 6, 6);
        due(-1, () -> x.terms(7));
        x.number(0);
        x.node(2, 8, 6);
        due(-1, () -> x.terms(9));
        x.node(4, 5, -1);
        x.node(1, 10, 3);
        due(-1, () -> x.terms(11));
        x.number(1001);
        x.node(3, 12, -1);
        due(-1, () -> x.terms(13));
        x.number(1000);
        x.node(3, 14, -1);
        due(1000000, () -> x.term(15, 0, 0, 0));
        x.node(5, 14, -1);
        due(-1, () -> x.terms(16));
        x.number(-100);
        x.node(5, 17, -1);
        due(-1000000, () -> x.term(18, 0, 0, 0));
        promise4Degree();
        promise4Terms();
        promise4Cancels();
        promise4ThirdPower();
    }

    private static void promise4Degree() {
        SmallChecker x = withLetters();
        x.node(5, 0, -1);
        x.node(3, 1, -1);
        x.node(3, 6, -1);
        x.node(2, 5, 7);
        x.node(2, 8, 3);
        x.node(2, 8, 1);
        due(1, () -> x.term(9, 3, 4, 0));
        due(1, () -> x.term(10, 3, 5, 0));
        x.node(2, 10, 2);
        due(1, () -> x.term(11, 3, 5, 1));
        x.node(2, 11, 2);
        due(-1, () -> x.terms(12));
        x.node(5, 7, -1);
        due(-1, () -> x.terms(13));
        x.node(1, 0, 0);
        x.node(2, 14, 11);
        due(0, () -> x.terms(15));
        x.node(5, 5, -1);
        due(1, () -> x.term(16, 9, 0, 0));
        x.node(3, 16, -1);
        due(-1, () -> x.terms(17));
    }

    private static void promise4Terms() {
        SmallChecker forty = new SmallChecker();
        int tree = treeOfFortyTerms(forty);
        due(40, () -> forty.terms(tree));
        due(1, () -> forty.term(tree, 4, 3, 1));
        int z = forty.leaf(2);
        int there = forty.node(0, tree, z);
        due(40, () -> forty.terms(there));
        int square = forty.node(3, z, -1);
        int more = forty.node(0, tree, square);
        due(-1, () -> forty.terms(more));
        int opposite = forty.node(4, tree, -1);
        due(40, () -> forty.terms(opposite));
        int none = forty.node(0, tree, opposite);
        due(0, () -> forty.terms(none));
        int twice = forty.node(0, tree, tree);
        due(2, () -> forty.term(twice, 4, 0, 0));
    }

    /** (x + 1000) (x - 1000) and the like: only the whole polynomial counts, not a step to it. */
    private static void promise4Cancels() {
        SmallChecker x = withLetters();
        x.number(1000000);
        x.node(0, 0, 5);
        x.node(1, 0, 5);
        x.node(2, 6, 1);
        x.node(2, 7, 1);
        due(1000000, () -> x.term(8, 0, 1, 0));
        x.node(2, 6, 7);
        due(-1, () -> x.terms(10));
        // (1000x + 1000y + z) (1000x - 1000y + z): 1000xz comes twice, 1000yz goes.
        x.number(1000);
        x.node(2, 11, 0);
        x.node(2, 11, 1);
        x.node(0, 12, 13);
        x.node(0, 14, 2);
        x.node(1, 12, 13);
        x.node(0, 16, 2);
        x.node(2, 15, 17);
        due(4, () -> x.terms(18));
        due(1000000, () -> x.term(18, 2, 0, 0));
        due(-1000000, () -> x.term(18, 0, 2, 0));
        due(2000, () -> x.term(18, 1, 0, 1));
        due(0, () -> x.term(18, 0, 1, 1));
        due(1, () -> x.term(18, 0, 0, 2));
    }

    private static void promise4ThirdPower() {
        SmallChecker x = withLetters();
        // (x + y + z + 1)^3 has 20 terms, its square has 84.
        x.node(0, 0, 1);
        x.node(0, 5, 2);
        x.node(0, 6, 3);
        x.node(5, 7, -1);
        due(20, () -> x.terms(8));
        due(6, () -> x.term(8, 1, 1, 1));
        x.node(3, 8, -1);
        due(-1, () -> x.terms(9));
        x.node(5, 8, -1);
        due(-1, () -> x.terms(10));
        x.number(0);
        x.node(5, 11, -1);
        due(0, () -> x.terms(12));
        x.node(5, 9, -1);
        due(-1, () -> x.terms(13));
    }

    private static void promise5() {
        SmallChecker x = withLetters();
        due(0, () -> x.load(0, 0, 1, -1));
        due(1, () -> x.load(1, 0, 1, 2));
        due(2, () -> x.load(2, 0, 1, 4));
        due(3, () -> x.load(3, 0, -10, 0));
        due(4, () -> x.load(3, 0, 10, 2));
        due(5, () -> x.load(4, 0, 1, -1));
        due(6, () -> x.load(5, 0, -1, -1));
        due(7, () -> x.load(6, 0, 1, -1));
        promise5Index(x);
        promise5Argument(x);
        due(8, () -> x.count(1));
        promise5Full();
    }

    private static void promise5Index(SmallChecker x) {
        for (int kind = -1; kind <= 7; kind++) {
            int k = kind;
            due(INDEX, () -> x.load(k, -1, 0, 0));
            due(INDEX, () -> x.load(k, 5, 0, 0));
        }
        int[] ofTwo = {0, 1, 2, 4, 6};
        for (int kind : ofTwo) {
            due(INDEX, () -> x.load(kind, 0, -1, 0));
            due(INDEX, () -> x.load(kind, 0, 5, 99));
        }
        due(INDEX, () -> x.load(2, 0, 0, -1));
        due(INDEX, () -> x.load(2, 0, 0, 5));
        due(INDEX, () -> x.load(Integer.MIN_VALUE, Integer.MIN_VALUE, 0, 0));
        due(INDEX, () -> x.load(3, Integer.MAX_VALUE, 99, 99));
    }

    private static void promise5Argument(SmallChecker x) {
        due(ARGUMENT, () -> x.load(7, 0, 99, 99));
        due(ARGUMENT, () -> x.load(-1, 0, -1, -1));
        due(ARGUMENT, () -> x.load(Integer.MAX_VALUE, 0, 0, 0));
        due(ARGUMENT, () -> x.load(0, 0, 0, 0));
        due(ARGUMENT, () -> x.load(4, 0, 0, -2));
        due(ARGUMENT, () -> x.load(6, 0, 0, 1));
        due(ARGUMENT, () -> x.load(1, 0, 0, 3));
        due(ARGUMENT, () -> x.load(1, 0, 0, -1));
        due(ARGUMENT, () -> x.load(3, 0, 11, 0));
        due(ARGUMENT, () -> x.load(3, 0, -11, 0));
        due(ARGUMENT, () -> x.load(3, 0, 0, 3));
        due(ARGUMENT, () -> x.load(3, 0, 0, -1));
        due(ARGUMENT, () -> x.load(5, 0, 0, -1));
        due(ARGUMENT, () -> x.load(5, 0, -1, 0));
    }

    private static void promise5Full() {
        SmallChecker x = withLetters();
        for (int i = 0; i < 60; i++) {
            int row = i;
            due(row, () -> x.load(0, 0, 0, -1));
        }
        due(STATE, () -> x.load(0, 0, 0, -1));
        due(ARGUMENT, () -> x.load(0, 0, 0, 0));
        due(INDEX, () -> x.load(0, 0, 5, -1));
        due(60, () -> x.count(1));
    }

    private static void promise6() {
        SmallChecker x = withLetters();
        for (int kind = 0; kind < 7; kind++) {
            x.load(kind, 0, kind == 5 ? -1 : 1, kind == 1 || kind == 2 || kind == 3 ? 0 : -1);
        }
        dueDone(() -> x.cofactor(6, 3));
        due(3, () -> x.rowAt(6, 4));
        dueDone(() -> x.cofactor(6, 4));
        due(4, () -> x.rowAt(6, 4));
        for (int row = 0; row < 6; row++) {
            int r = row;
            dueEnd(ARGUMENT, () -> x.cofactor(r, 0));
            dueEnd(INDEX, () -> x.cofactor(r, 5));
            due(-1, () -> x.rowAt(r, 4));
        }
        dueEnd(INDEX, () -> x.cofactor(6, -1));
        dueEnd(INDEX, () -> x.cofactor(6, 5));
        dueEnd(INDEX, () -> x.cofactor(7, 0));
        dueEnd(INDEX, () -> x.cofactor(-1, 0));
        due(4, () -> x.rowAt(6, 4));
    }

    private static void promise7() {
        SmallChecker x = withLetters();
        x.load(0, 0, 0, -1);
        x.load(5, 0, -1, -1);
        dueDone(() -> x.sample(0, 0, -10));
        dueDone(() -> x.sample(0, 1, 10));
        dueDone(() -> x.sample(0, 2, 3));
        due(-10, () -> x.rowAt(0, 5));
        due(10, () -> x.rowAt(0, 6));
        due(3, () -> x.rowAt(0, 7));
        due(0, () -> x.rowAt(1, 5));
        dueEnd(ARGUMENT, () -> x.sample(0, 0, 11));
        dueEnd(ARGUMENT, () -> x.sample(0, 0, -11));
        dueEnd(INDEX, () -> x.sample(0, 3, 11));
        dueEnd(INDEX, () -> x.sample(0, -1, 0));
        dueEnd(INDEX, () -> x.sample(2, 0, 0));
        dueEnd(INDEX, () -> x.sample(-1, 0, 99));
        dueEnd(INDEX, () -> x.sample(0, Integer.MAX_VALUE, 0));
        due(-10, () -> x.rowAt(0, 5));
    }

    private static void promise8() {
        SmallChecker x = withLetters();
        x.load(0, 0, 0, -1);
        x.load(0, 0, 1, -1);
        x.load(0, 1, 1, -1);
        x.load(0, 1, 2, -1);
        due(2, () -> x.check(0, 4));
        due(2, () -> x.check(1, 4));
        due(4, () -> x.check(2, 4));
        due(0, () -> x.check(2, 3));
        due(0, () -> x.check(0, 1));
        due(0, () -> x.check(1, 1));
        due(0, () -> x.check(3, 1));
        due(0, () -> x.check(4, 4));
        due(0, () -> x.check(99, 4));
        due(0, () -> x.check(0, -1));
        due(0, () -> x.check(Integer.MAX_VALUE, Integer.MIN_VALUE));
        due(INDEX, () -> x.check(-1, 0));
        due(INDEX, () -> x.check(0, 5));
        due(INDEX, () -> x.check(99, 5));
        due(INDEX, () -> x.check(Integer.MIN_VALUE, -1));
        promise8Same();
        promise8Derivation();
        promise8Product();
        promise8Root();
        promise8Value();
        promise8Positive();
        promise8Divisor();
        promise8TooGreat();
    }

    private static void row(SmallChecker x, boolean holds, int kind, int a, int b, int c) {
        int row = x.load(kind, a, b, c);
        due(holds ? 0 : row + 1, () -> x.check(row, row + 1));
    }

    private static void promise8Same() {
        SmallChecker x = withLetters();
        x.node(0, 0, 1);
        x.node(0, 1, 0);
        x.node(3, 5, -1);
        x.node(2, 5, 6);
        x.node(0, 5, 2);
        x.node(1, 3, 3);
        x.number(0);
        row(x, true, 0, 5, 6, -1);
        row(x, true, 0, 7, 8, -1);
        row(x, false, 0, 5, 9, -1);
        row(x, false, 0, 9, 5, -1);
        row(x, false, 0, 3, 4, -1);
        row(x, true, 0, 10, 11, -1);
        row(x, false, 0, 10, 3, -1);
        row(x, false, 0, 3, 10, -1);
    }

    private static void promise8Derivation() {
        SmallChecker x = withLetters();
        x.node(5, 0, -1);
        x.node(3, 1, -1);
        x.node(2, 5, 6);
        x.node(2, 7, 2);
        // x^3 y^2 z by x: 3 x^2 y^2 z, by y: 2 x^3 y z, by z: x^3 y^2
        x.number(3);
        x.node(3, 0, -1);
        x.node(2, 9, 10);
        x.node(2, 11, 6);
        x.node(2, 12, 2);
        x.node(2, 4, 5);
        x.node(2, 14, 1);
        x.node(2, 15, 2);
        row(x, true, 1, 8, 13, 0);
        row(x, true, 1, 8, 16, 1);
        row(x, true, 1, 8, 7, 2);
        row(x, false, 1, 8, 13, 1);
        row(x, false, 1, 8, 16, 2);
        row(x, false, 1, 8, 7, 0);
        x.number(0);
        row(x, true, 1, 7, 17, 2);
        row(x, true, 1, 17, 17, 0);
        row(x, true, 1, 4, 17, 0);
        row(x, false, 1, 0, 17, 0);
        row(x, true, 1, 0, 3, 0);
        // The derivation may have a number that no tree within the limits has.
        x.number(1000000);
        x.node(2, 18, 10);
        x.node(2, 18, 0);
        row(x, false, 1, 19, 20, 0);
    }

    private static void promise8Product() {
        SmallChecker x = withLetters();
        x.node(0, 0, 1);
        x.node(1, 0, 1);
        x.node(3, 0, -1);
        x.node(3, 1, -1);
        x.node(1, 7, 8);
        row(x, true, 2, 9, 5, 6);
        row(x, true, 2, 9, 6, 5);
        row(x, false, 2, 9, 5, 5);
        row(x, false, 2, 7, 5, 6);
        x.number(0);
        row(x, true, 2, 10, 10, 9);
        row(x, false, 2, 10, 3, 9);
        row(x, false, 2, 9, 10, 9);
        // A product beyond the limits is no tree's polynomial, and above all not 0.
        x.node(5, 0, -1);
        x.node(5, 11, -1);
        row(x, false, 2, 10, 12, 0);
        row(x, false, 2, 12, 12, 0);
        row(x, true, 2, 12, 12, 3);
        x.number(1000000);
        row(x, false, 2, 13, 13, 13);
        row(x, false, 2, 10, 13, 13);
        row(x, true, 2, 13, 13, 3);
    }

    private static void promise8Root() {
        SmallChecker x = withLetters();
        x.node(1, 0, 4);
        x.node(0, 1, 2);
        x.node(2, 5, 6);
        row(x, true, 3, 7, 2, 0);
        row(x, false, 3, 7, -2, 0);
        row(x, false, 3, 7, 2, 1);
        row(x, false, 3, 7, 0, 1);
        row(x, true, 3, 0, 0, 0);
        row(x, false, 3, 3, 0, 0);
        row(x, false, 3, 0, 0, 1);
        // x + y with x = -1 is y - 1, with y = 1 it is x + 1: never 0 in the letters left.
        x.node(0, 0, 1);
        row(x, false, 3, 8, -1, 0);
        // xy + 3y: terms meet and cancel.
        x.number(3);
        x.node(2, 0, 1);
        x.node(2, 9, 1);
        x.node(0, 10, 11);
        row(x, true, 3, 12, -3, 0);
        row(x, true, 3, 12, 0, 1);
        row(x, false, 3, 12, 3, 0);
        x.number(0);
        row(x, true, 3, 13, 7, 2);
        // 1000000 z^9 with 10: beyond int, not 0.
        x.number(1000000);
        x.node(5, 2, -1);
        x.node(5, 15, -1);
        x.node(2, 14, 16);
        row(x, false, 3, 17, 10, 2);
        row(x, true, 3, 17, 0, 2);
    }

    private static void promise8Value() {
        SmallChecker x = withLetters();
        int same = x.load(4, 0, 1, -1);
        due(0, () -> x.check(same, same + 1));
        x.sample(same, 0, 2);
        due(same + 1, () -> x.check(same, same + 1));
        x.sample(same, 1, 2);
        due(0, () -> x.check(same, same + 1));
        x.node(2, 1, 1);
        int square = x.load(4, 5, 2, -1);
        x.sample(square, 1, -3);
        due(square + 1, () -> x.check(square, square + 1));
        x.sample(square, 2, 9);
        due(0, () -> x.check(square, square + 1));
        // 2^32 apart: 4 * 1024 * 1024 * 1024 as a product against 0, as ints alike.
        x.node(5, 0, -1);
        x.node(5, 6, -1);
        x.number(262144);
        x.node(2, 7, 8);
        x.number(0);
        int wide = x.load(4, 9, 10, -1);
        x.sample(wide, 0, 4);
        due(wide + 1, () -> x.check(wide, wide + 1));
    }

    private static void promise8Positive() {
        SmallChecker x = withLetters();
        int row = x.load(5, 0, -1, -1);
        due(row + 1, () -> x.check(row, row + 1));
        x.sample(row, 0, 1);
        due(0, () -> x.check(row, row + 1));
        x.sample(row, 0, -1);
        due(row + 1, () -> x.check(row, row + 1));
        int constant = x.load(5, 3, -1, -1);
        due(0, () -> x.check(constant, constant + 1));
        // 1000000 x^9 at 10 and -10 leaves the range of int.
        x.number(1000000);
        x.node(5, 0, -1);
        x.node(5, 6, -1);
        x.node(2, 5, 7);
        int high = x.load(5, 8, -1, -1);
        x.sample(high, 0, 10);
        due(0, () -> x.check(high, high + 1));
        x.sample(high, 0, -10);
        due(high + 1, () -> x.check(high, high + 1));
        x.number(0);
        int zero = x.load(5, 9, -1, -1);
        due(zero + 1, () -> x.check(zero, zero + 1));
    }

    private static void promise8Divisor() {
        SmallChecker x = withLetters();
        x.node(0, 0, 1);
        x.node(1, 0, 1);
        x.node(2, 5, 6);
        x.number(0);
        int row = x.load(6, 7, 5, -1);
        due(row + 1, () -> x.check(row, row + 1));
        x.cofactor(row, 6);
        due(0, () -> x.check(row, row + 1));
        x.cofactor(row, 5);
        due(row + 1, () -> x.check(row, row + 1));
        int byZero = x.load(6, 8, 8, -1);
        x.cofactor(byZero, 8);
        due(byZero + 1, () -> x.check(byZero, byZero + 1));
        int ofZero = x.load(6, 8, 5, -1);
        due(ofZero + 1, () -> x.check(ofZero, ofZero + 1));
        x.cofactor(ofZero, 8);
        due(0, () -> x.check(ofZero, ofZero + 1));
        x.cofactor(ofZero, 3);
        due(ofZero + 1, () -> x.check(ofZero, ofZero + 1));
    }

    private static void promise8TooGreat() {
        SmallChecker x = withLetters();
        x.number(1000000);
        int great = x.node(0, 5, 5);
        int zero = x.number(0);
        row(x, false, 0, great, great, -1);
        row(x, false, 0, zero, great, -1);
        row(x, false, 1, great, zero, 0);
        row(x, false, 1, zero, great, 0);
        row(x, false, 2, great, zero, zero);
        row(x, false, 2, zero, great, zero);
        row(x, false, 2, zero, zero, great);
        row(x, false, 3, great, 0, 0);
        row(x, false, 4, great, great, -1);
        row(x, false, 4, zero, great, -1);
        row(x, false, 5, great, -1, -1);
        // 6 is the number of the great tree, here only a number in place of a letter.
        row(x, true, 3, zero, great, 0);
        int row = x.load(6, zero, 3, -1);
        x.cofactor(row, great);
        due(row + 1, () -> x.check(row, row + 1));
        x.cofactor(row, zero);
        due(0, () -> x.check(row, row + 1));
        int over = x.load(6, great, 3, -1);
        x.cofactor(over, great);
        due(over + 1, () -> x.check(over, over + 1));
    }

    private static void promise9() {
        SmallChecker x = withLetters();
        x.load(3, 1, -7, 2);
        x.load(6, 3, 4, -1);
        x.sample(1, 1, 5);
        x.cofactor(1, 0);
        int[][] want = {{3, 1, -7, 2, -1, 0, 0, 0}, {6, 3, 4, -1, 0, 0, 5, 0}};
        for (int r = 0; r < 2; r++) {
            for (int w = 0; w < 8; w++) {
                int row = r;
                int what = w;
                due(want[r][w], () -> x.rowAt(row, what));
            }
        }
        due(INDEX, () -> x.rowAt(0, 8));
        due(INDEX, () -> x.rowAt(0, -1));
        due(INDEX, () -> x.rowAt(2, 0));
        due(INDEX, () -> x.rowAt(-1, 0));
        due(INDEX, () -> x.rowAt(Integer.MAX_VALUE, Integer.MIN_VALUE));
    }

    private static void promise10() {
        SmallChecker x = withLetters();
        x.node(0, 0, 1);
        x.node(0, 5, 2);
        x.number(1000000);
        x.node(0, 7, 7);
        x.number(0);
        x.load(0, 5, 6, -1);
        x.load(1, 6, 0, 2);
        x.load(2, 6, 5, 0);
        x.load(3, 6, 5, 0);
        x.load(4, 6, 6, -1);
        x.load(5, 5, -1, -1);
        x.load(6, 6, 3, -1);
        x.load(0, 8, 6, -1);
        x.load(2, 9, 9, 8);
        x.cofactor(6, 5);
        int[] want = {5, 4, 6, 3, 6, 2, 4, 3, 0};
        for (int r = 0; r < want.length; r++) {
            int row = r;
            due(want[r], () -> x.counted(row));
        }
        due(INDEX, () -> x.counted(want.length));
        due(INDEX, () -> x.counted(-1));
    }

    private static void promise11() {
        SmallChecker x = withLetters();
        x.node(1, 0, 0);
        x.node(0, 0, 1);
        x.node(3, 6, -1);
        x.number(1000000);
        x.node(0, 8, 8);
        int[] want = {1, 1, 1, 1, 1, 0, 2, 3, 1, -1};
        for (int t = 0; t < want.length; t++) {
            int tree = t;
            due(want[t], () -> x.terms(tree));
        }
        due(INDEX, () -> x.terms(want.length));
        due(INDEX, () -> x.terms(-1));
        due(INDEX, () -> x.terms(Integer.MAX_VALUE));
    }

    private static void promise12() {
        SmallChecker x = withLetters();
        x.node(2, 0, 1);
        x.node(2, 5, 2);
        x.node(1, 6, 4);
        due(1, () -> x.term(7, 1, 1, 1));
        due(-2, () -> x.term(7, 0, 0, 0));
        due(0, () -> x.term(7, 1, 0, 1));
        due(0, () -> x.term(7, 10, 0, 0));
        due(0, () -> x.term(7, 0, 10, 0));
        due(0, () -> x.term(7, 0, 11, 1));
        due(0, () -> x.term(7, 1, 0, 11));
        due(0, () -> x.term(7, 2, -9, 1));
        due(0, () -> x.term(7, -1, -1, -1));
        due(0, () -> x.term(7, Integer.MIN_VALUE, 0, 0));
        due(0, () -> x.term(7, 1 << 30, 1 << 30, 0));
        due(0, () -> x.term(7, Integer.MAX_VALUE, Integer.MAX_VALUE, Integer.MAX_VALUE));
        x.number(1000000);
        x.node(0, 8, 8);
        due(STATE, () -> x.term(9, 0, 0, 0));
        due(STATE, () -> x.term(9, -1, 99, 0));
        due(INDEX, () -> x.term(10, 0, 0, 0));
        due(INDEX, () -> x.term(-1, 0, 0, 0));
    }

    private static void promise13() {
        SmallChecker x = withTower(20);
        for (int t = 0; t <= 20; t++) {
            int tree = t;
            due(t, () -> x.deep(tree));
        }
        x.number(5);
        x.node(0, 21, 3);
        x.node(2, 7, 21);
        due(0, () -> x.deep(21));
        due(4, () -> x.deep(22));
        due(8, () -> x.deep(23));
        due(INDEX, () -> x.deep(24));
        due(INDEX, () -> x.deep(-1));
    }

    private static void promise14() {
        SmallChecker x = withLetters();
        x.leaf(0);
        x.number(1);
        x.number(0);
        x.number(2);
        due(true, () -> x.alike(0, 5));
        due(true, () -> x.alike(3, 6));
        due(false, () -> x.alike(0, 1));
        due(false, () -> x.alike(3, 4));
        due(false, () -> x.alike(0, 7));
        due(false, () -> x.alike(1, 3));
        due(false, () -> x.alike(2, 8));
        x.node(0, 0, 3);
        x.node(0, 5, 6);
        x.node(0, 3, 0);
        x.node(1, 0, 3);
        x.node(3, 9, -1);
        x.node(3, 10, -1);
        x.node(4, 10, -1);
        x.node(2, 9, 9);
        due(true, () -> x.alike(9, 10));
        due(true, () -> x.alike(10, 9));
        due(false, () -> x.alike(9, 11));
        due(false, () -> x.alike(9, 12));
        due(true, () -> x.alike(13, 14));
        due(false, () -> x.alike(14, 15));
        due(false, () -> x.alike(13, 16));
        due(false, () -> x.alike(9, 0));
        due(true, () -> x.alike(16, 16));
        due(INDEX, () -> x.alike(17, 0));
        due(INDEX, () -> x.alike(0, 17));
        due(INDEX, () -> x.alike(-1, -1));
        promise14Wide();
    }

    /** Trees that use one tree twice at each of 20 levels, too great ones among them. */
    private static void promise14Wide() {
        SmallChecker x = new SmallChecker();
        int first = x.leaf(0);
        int second = x.leaf(0);
        int third = x.leaf(1);
        for (int i = 0; i < 20; i++) {
            first = x.node(2, first, first);
            second = x.node(2, second, second);
            third = x.node(2, third, third);
        }
        int a = first;
        int b = second;
        int c = third;
        due(-1, () -> x.terms(a));
        due(true, () -> x.alike(a, b));
        due(false, () -> x.alike(a, c));
    }

    private static void promise15() {
        SmallChecker x = withLetters();
        x.load(0, 0, 0, -1);
        x.load(0, 0, 1, -1);
        due(5, () -> x.count(0));
        due(2, () -> x.count(1));
        due(7, () -> x.count(2));
        due(-1, () -> x.count(3));
        due(-1, () -> x.count(-1));
        due(-1, () -> x.count(Integer.MIN_VALUE));
        due(-1, () -> x.count(Integer.MAX_VALUE));
    }

    private static void promise16() {
        SmallChecker x = withLetters();
        x.load(6, 0, 1, -1);
        x.cofactor(0, 2);
        x.sample(0, 0, 9);
        dueDone(x::clear);
        due(0, () -> x.count(0));
        due(0, () -> x.count(1));
        due(7, () -> x.count(2));
        due(INDEX, () -> x.terms(0));
        due(INDEX, () -> x.rowAt(0, 0));
        due(INDEX, () -> x.check(0, 1));
        due(INDEX, () -> x.node(4, 0, -1));
        due(0, () -> x.number(1000000));
        due(1, () -> x.node(0, 0, 0));
        due(2, () -> x.leaf(1));
        due(-1, () -> x.terms(1));
        due(0, () -> x.load(6, 0, 0, -1));
        due(-1, () -> x.rowAt(0, 4));
        due(0, () -> x.rowAt(0, 5));
        dueDone(x::clear);
        due(0, () -> x.leaf(2));
        due(1, () -> x.number(3));
        due(3, () -> x.term(1, 0, 0, 0));
        due(0, () -> x.deep(1));
        due(false, () -> x.alike(0, 1));
        dueDone(x::clear);
        dueDone(x::clear);
    }

    public static void main(String[] args) {
        Action[] promises = {
            PromisesTest::promise1, PromisesTest::promise2, PromisesTest::promise3,
            PromisesTest::promise4, PromisesTest::promise5, PromisesTest::promise6,
            PromisesTest::promise7, PromisesTest::promise8, PromisesTest::promise9,
            PromisesTest::promise10, PromisesTest::promise11, PromisesTest::promise12,
            PromisesTest::promise13, PromisesTest::promise14, PromisesTest::promise15,
            PromisesTest::promise16,
        };
        for (Action action : promises) {
            promise++;
            action.run();
        }
        System.out.println(asked + " answers, " + wrong + " not as due");
        if (wrong != 0) {
            System.exit(1);
        }
    }
}
