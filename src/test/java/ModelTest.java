import java.math.BigInteger;
import java.util.ArrayList;
import java.util.HashMap;
import java.util.List;
import java.util.Map;
import java.util.Random;

/**
 * Runs of calls, answered by SmallChecker and by a second model that is as close to the
 * document's words as can be: maps from powers to numbers of any size, trees compared whole.
 */
public final class ModelTest {
    private static final int RUNS = 600;
    /** The document says nothing of later calls. */
    private static final int MOST_CALLS = 512;

    private static final String INDEX = "ArrayIndexOutOfBoundsException";
    private static final String ARGUMENT = "IllegalArgumentException";
    private static final String STATE = "IllegalStateException";

    /** The answer to a call is an exception of this name. */
    private static final class Thrown extends RuntimeException {
        private static final long serialVersionUID = 1L;

        Thrown(String name) {
            super(name);
        }
    }

    private static final class Plain {
        final List<String> shapes = new ArrayList<>();
        final List<Integer> depths = new ArrayList<>();
        /** null: too great. */
        final List<Map<List<Integer>, BigInteger>> polynomials = new ArrayList<>();
        final List<int[]> rows = new ArrayList<>();
        /** Head and trees of each node, null for other trees. */
        final List<int[]> parts = new ArrayList<>();

        static Map<List<Integer>, BigInteger> one(List<Integer> powers, long v) {
            Map<List<Integer>, BigInteger> p = new HashMap<>();
            put(p, powers, BigInteger.valueOf(v));
            return p;
        }

        static void put(Map<List<Integer>, BigInteger> p, List<Integer> powers, BigInteger v) {
            BigInteger sum = p.getOrDefault(powers, BigInteger.ZERO).add(v);
            if (sum.signum() == 0) {
                p.remove(powers);
            } else {
                p.put(powers, sum);
            }
        }

        static Map<List<Integer>, BigInteger> sum(
                Map<List<Integer>, BigInteger> p, Map<List<Integer>, BigInteger> q, int factor) {
            Map<List<Integer>, BigInteger> s = new HashMap<>(p);
            q.forEach((k, v) -> put(s, k, v.multiply(BigInteger.valueOf(factor))));
            return s;
        }

        static Map<List<Integer>, BigInteger> product(
                Map<List<Integer>, BigInteger> p, Map<List<Integer>, BigInteger> q) {
            Map<List<Integer>, BigInteger> s = new HashMap<>();
            p.forEach((k, v) -> q.forEach((l, w) -> put(s,
                    List.of(k.get(0) + l.get(0), k.get(1) + l.get(1), k.get(2) + l.get(2)), v.multiply(w))));
            return s;
        }

        static Map<List<Integer>, BigInteger> limited(Map<List<Integer>, BigInteger> p) {
            if (p == null || p.size() > 40) {
                return null;
            }
            for (Map.Entry<List<Integer>, BigInteger> e : p.entrySet()) {
                int degree = e.getKey().get(0) + e.getKey().get(1) + e.getKey().get(2);
                if (degree > 9 || e.getValue().abs().compareTo(BigInteger.valueOf(1000000)) > 0) {
                    return null;
                }
            }
            return p;
        }

        boolean isTree(int t) {
            return t >= 0 && t < shapes.size();
        }

        boolean isRow(int r) {
            return r >= 0 && r < rows.size();
        }

        static void refuse(boolean bad, String name) {
            if (bad) {
                throw new Thrown(name);
            }
        }

        int keep(String shape, int depth, Map<List<Integer>, BigInteger> p) {
            shapes.add(shape);
            depths.add(depth);
            polynomials.add(limited(p));
            parts.add(null);
            return shapes.size() - 1;
        }

        int leaf(int name) {
            refuse(name < 0 || name > 2, ARGUMENT);
            refuse(shapes.size() == 120, STATE);
            List<Integer> powers = List.of(name == 0 ? 1 : 0, name == 1 ? 1 : 0, name == 2 ? 1 : 0);
            return keep("l" + name, 0, one(powers, 1));
        }

        int number(int v) {
            refuse(v < -1000000 || v > 1000000, ARGUMENT);
            refuse(shapes.size() == 120, STATE);
            return keep("n" + v, 0, one(List.of(0, 0, 0), v));
        }

        int node(int head, int a, int b) {
            int made = makeNode(head, a, b);
            parts.set(made, new int[] {head, a, head == 3 ? a : b});
            return made;
        }

        int makeNode(int head, int a, int b) {
            refuse(!isTree(a), INDEX);
            refuse(!isTree(b) && !(head >= 3 && b == -1), INDEX);
            refuse(head < 0 || head > 5, ARGUMENT);
            refuse(head >= 3 && b != -1, ARGUMENT);
            int depth = 1 + Math.max(depths.get(a), head >= 3 ? 0 : depths.get(b));
            refuse(depth > 20, ARGUMENT);
            refuse(shapes.size() == 120, STATE);
            String shape = "(" + head + shapes.get(a) + (head >= 3 ? "" : "," + shapes.get(b)) + ")";
            Map<List<Integer>, BigInteger> p = polynomials.get(a);
            Map<List<Integer>, BigInteger> q = head >= 3 ? p : polynomials.get(b);
            if (p == null || q == null) {
                return keep(shape, depth, null);
            }
            switch (head) {
                case 0:
                    return keep(shape, depth, sum(p, q, 1));
                case 1:
                    return keep(shape, depth, sum(p, q, -1));
                case 4:
                    return keep(shape, depth, sum(new HashMap<>(), p, -1));
                case 5:
                    Map<List<Integer>, BigInteger> square = limited(product(p, p));
                    return keep(shape, depth, square == null ? null : product(square, p));
                default:
                    return keep(shape, depth, product(p, q));
            }
        }

        static int treesIn(int kind) {
            return kind == 2 ? 3 : kind == 0 || kind == 1 || kind == 4 || kind == 6 ? 2 : 1;
        }

        int load(int kind, int a, int b, int c) {
            int trees = treesIn(kind);
            refuse(!isTree(a) || (trees > 1 && !isTree(b)) || (trees > 2 && !isTree(c)), INDEX);
            refuse(kind < 0 || kind > 6, ARGUMENT);
            refuse((kind == 0 || kind == 4 || kind == 5 || kind == 6) && c != -1, ARGUMENT);
            refuse(kind == 5 && b != -1, ARGUMENT);
            refuse((kind == 1 || kind == 3) && (c < 0 || c > 2), ARGUMENT);
            refuse(kind == 3 && (b < -10 || b > 10), ARGUMENT);
            refuse(rows.size() == 60, STATE);
            rows.add(new int[] {kind, a, b, c, -1, 0, 0, 0});
            return rows.size() - 1;
        }

        int cofactor(int row, int tree) {
            refuse(!isRow(row) || !isTree(tree), INDEX);
            refuse(rows.get(row)[0] != 6, ARGUMENT);
            rows.get(row)[4] = tree;
            return 0;
        }

        int sample(int row, int letter, int v) {
            refuse(!isRow(row) || letter < 0 || letter > 2, INDEX);
            refuse(v < -10 || v > 10, ARGUMENT);
            rows.get(row)[5 + letter] = v;
            return 0;
        }

        Map<List<Integer>, BigInteger> derived(Map<List<Integer>, BigInteger> p, int l) {
            Map<List<Integer>, BigInteger> d = new HashMap<>();
            p.forEach((k, v) -> {
                List<Integer> less = new ArrayList<>(k);
                less.set(l, k.get(l) - 1);
                put(d, less, v.multiply(BigInteger.valueOf(k.get(l))));
            });
            return d;
        }

        Map<List<Integer>, BigInteger> replaced(Map<List<Integer>, BigInteger> p, int v, int l) {
            Map<List<Integer>, BigInteger> d = new HashMap<>();
            p.forEach((k, n) -> {
                List<Integer> rest = new ArrayList<>(k);
                rest.set(l, 0);
                put(d, rest, n.multiply(BigInteger.valueOf(v).pow(k.get(l))));
            });
            return d;
        }

        BigInteger value(Map<List<Integer>, BigInteger> p, int[] row) {
            Map<List<Integer>, BigInteger> all = p;
            for (int l = 0; l < 3; l++) {
                all = replaced(all, row[5 + l], l);
            }
            return all.getOrDefault(List.of(0, 0, 0), BigInteger.ZERO);
        }

        boolean holds(int[] row) {
            List<Map<List<Integer>, BigInteger>> p = new ArrayList<>();
            for (int f = 0; f < treesIn(row[0]); f++) {
                p.add(polynomials.get(row[1 + f]));
            }
            if (row[0] == 6 && row[4] != -1) {
                p.add(polynomials.get(row[4]));
            }
            if (p.contains(null)) {
                return false;
            }
            switch (row[0]) {
                case 0:
                    return p.get(0).equals(p.get(1));
                case 1:
                    return p.get(1).equals(derived(p.get(0), row[3]));
                case 2:
                    return p.get(0).equals(product(p.get(1), p.get(2)));
                case 3:
                    return replaced(p.get(0), row[2], row[3]).isEmpty();
                case 4:
                    return value(p.get(0), row).equals(value(p.get(1), row));
                case 5:
                    return value(p.get(0), row).signum() > 0;
                default:
                    return row[4] != -1 && !p.get(1).isEmpty()
                            && product(p.get(1), p.get(2)).equals(p.get(0));
            }
        }

        int check(int from, int to) {
            refuse(from < 0 || to > rows.size(), INDEX);
            for (int r = from; r < to; r++) {
                if (!holds(rows.get(r))) {
                    return r + 1;
                }
            }
            return 0;
        }

        int rowAt(int row, int what) {
            refuse(!isRow(row) || what < 0 || what > 7, INDEX);
            return rows.get(row)[what];
        }

        int counted(int row) {
            refuse(!isRow(row), INDEX);
            int all = 0;
            for (int f = 0; f < treesIn(rows.get(row)[0]); f++) {
                Map<List<Integer>, BigInteger> p = polynomials.get(rows.get(row)[1 + f]);
                all += p == null ? 0 : p.size();
            }
            return all;
        }

        int terms(int t) {
            refuse(!isTree(t), INDEX);
            return polynomials.get(t) == null ? -1 : polynomials.get(t).size();
        }

        int term(int t, int i, int j, int k) {
            refuse(!isTree(t), INDEX);
            refuse(polynomials.get(t) == null, STATE);
            return polynomials.get(t).getOrDefault(List.of(i, j, k), BigInteger.ZERO).intValueExact();
        }

        int deep(int t) {
            refuse(!isTree(t), INDEX);
            return depths.get(t);
        }

        int alike(int a, int b) {
            refuse(!isTree(a) || !isTree(b), INDEX);
            return shapes.get(a).equals(shapes.get(b)) ? 1 : 0;
        }

        int count(int what) {
            return what == 0 ? shapes.size() : what == 1 ? rows.size() : what == 2 ? 7 : -1;
        }

        int clear() {
            shapes.clear();
            depths.clear();
            polynomials.clear();
            parts.clear();
            rows.clear();
            return 0;
        }
    }

    private static final int[] ODD = {
        -1, -2, 3, 7, 8, 10, 11, -10, -11, 60, 120, 1000000, -1000000, 1000001, -1000001,
        Integer.MAX_VALUE, Integer.MIN_VALUE,
    };
    private static final int[] NUMBERS = {0, 1, -1, 2, -2, 3, 10, 100, 1000, 999999, 1000000, -1000000};

    private final Random random;
    private final Plain plain = new Plain();
    private final int calls;
    private final List<int[]> made = new ArrayList<>();
    private SmallChecker checker = new SmallChecker();
    private int used = 0;
    /** How the run leans: small numbers keep polynomials within the limits for longer. */
    private final boolean small;

    private ModelTest(int seed) {
        random = new Random(seed);
        small = seed % 2 == 0;
        // A long run is compared call by call alone, a shorter one leaves room for questions too.
        calls = seed % 4 < 2 ? MOST_CALLS : MOST_CALLS * 3 / 4;
    }

    private int below(int most) {
        return random.nextInt(Math.max(1, most));
    }

    private int seldomOdd(int usual) {
        return random.nextInt(40) == 0 ? ODD[below(ODD.length)] : usual;
    }

    private int tree() {
        int many = plain.shapes.size();
        // Half of the time an early tree, so that powers stay low.
        return seldomOdd(random.nextBoolean() ? below(Math.min(many, 8)) : below(many));
    }

    private int row() {
        int many = plain.rows.size();
        return seldomOdd(random.nextBoolean() ? many - 1 : below(many));
    }

    private int[] nextCall() {
        int which = random.nextInt(100);
        int[] call = new int[5];
        if (which < 6) {
            return new int[] {0, seldomOdd(below(3)), 0, 0, 0};
        } else if (which < 11) {
            int v = small ? below(7) - 3 : NUMBERS[below(NUMBERS.length)];
            return new int[] {1, seldomOdd(v), 0, 0, 0};
        } else if (which < 34) {
            int head = seldomOdd(below(6));
            return new int[] {2, head, tree(), head >= 3 ? seldomOdd(-1) : tree(), 0};
        } else if (which < 50) {
            return rowCall();
        } else if (which < 56) {
            int[] fit = random.nextBoolean() ? trueCofactor() : null;
            return fit != null ? fit : new int[] {4, row(), tree(), 0, 0};
        } else if (which < 64) {
            return new int[] {5, row(), seldomOdd(below(3)), seldomOdd(below(21) - 10), 0};
        } else if (which < 78) {
            int many = plain.rows.size();
            int from = seldomOdd(below(many + 1));
            return new int[] {6, from, seldomOdd(random.nextBoolean() ? from + 1 : below(many + 1)), 0, 0};
        } else if (which < 81) {
            return new int[] {7, row(), seldomOdd(below(8)), 0, 0};
        } else if (which < 84) {
            return new int[] {8, row(), 0, 0, 0};
        } else if (which < 88) {
            return new int[] {9, tree(), 0, 0, 0};
        } else if (which < 94) {
            return new int[] {10, tree(), seldomOdd(below(4)), seldomOdd(below(3)), seldomOdd(below(3))};
        } else if (which < 96) {
            return new int[] {11, tree(), 0, 0, 0};
        } else if (which < 98) {
            return new int[] {12, tree(), tree(), 0, 0};
        } else if (random.nextInt(5) > 0) {
            return new int[] {13, seldomOdd(below(4)), 0, 0, 0};
        }
        call[0] = random.nextInt(4) == 0 ? 14 : 13;
        return call;
    }

    /** A claim about a product that is true if no tree in it is too great; null for none. */
    private int[] trueClaim() {
        int many = plain.parts.size();
        int t = below(many);
        int[] parts = many == 0 ? null : plain.parts.get(t);
        if (parts == null || (parts[0] != 2 && parts[0] != 3)) {
            return null;
        }
        int kind = random.nextBoolean() ? 2 : 6;
        return new int[] {3, kind, t, parts[1], kind == 2 ? parts[2] : -1};
    }

    /** For the newest row the cofactor that makes it true, if it is about a product. */
    private int[] trueCofactor() {
        int newest = plain.rows.size() - 1;
        int[] row = newest < 0 ? null : plain.rows.get(newest);
        int[] parts = row == null || row[0] != 6 ? null : plain.parts.get(row[1]);
        return parts == null ? null : new int[] {4, newest, parts[2], 0, 0};
    }

    private int[] rowCall() {
        int[] claim = random.nextInt(3) == 0 ? trueClaim() : null;
        if (claim != null) {
            return claim;
        }
        int kind = seldomOdd(below(7));
        int b = kind == 3 ? seldomOdd(below(7) - 3) : kind == 5 ? seldomOdd(-1) : tree();
        int c = kind == 2 ? tree() : kind == 1 || kind == 3 ? seldomOdd(below(3)) : seldomOdd(-1);
        return new int[] {3, kind, tree(), b, c};
    }

    private static int asked(Plain x, int[] c) {
        switch (c[0]) {
            case 0: return x.leaf(c[1]);
            case 1: return x.number(c[1]);
            case 2: return x.node(c[1], c[2], c[3]);
            case 3: return x.load(c[1], c[2], c[3], c[4]);
            case 4: return x.cofactor(c[1], c[2]);
            case 5: return x.sample(c[1], c[2], c[3]);
            case 6: return x.check(c[1], c[2]);
            case 7: return x.rowAt(c[1], c[2]);
            case 8: return x.counted(c[1]);
            case 9: return x.terms(c[1]);
            case 10: return x.term(c[1], c[2], c[3], c[4]);
            case 11: return x.deep(c[1]);
            case 12: return x.alike(c[1], c[2]);
            case 13: return x.count(c[1]);
            default: return x.clear();
        }
    }

    private static int asked(SmallChecker x, int[] c) {
        switch (c[0]) {
            case 0: return x.leaf(c[1]);
            case 1: return x.number(c[1]);
            case 2: return x.node(c[1], c[2], c[3]);
            case 3: return x.load(c[1], c[2], c[3], c[4]);
            case 4: x.cofactor(c[1], c[2]); return 0;
            case 5: x.sample(c[1], c[2], c[3]); return 0;
            case 6: return x.check(c[1], c[2]);
            case 7: return x.rowAt(c[1], c[2]);
            case 8: return x.counted(c[1]);
            case 9: return x.terms(c[1]);
            case 10: return x.term(c[1], c[2], c[3], c[4]);
            case 11: return x.deep(c[1]);
            case 12: return x.alike(c[1], c[2]) ? 1 : 0;
            case 13: return x.count(c[1]);
            default: x.clear(); return 0;
        }
    }

    private static String due(Plain x, int[] call) {
        try {
            return String.valueOf(asked(x, call));
        } catch (Thrown e) {
            return "throws." + e.getMessage();
        }
    }

    private static String got(SmallChecker x, int[] call) {
        try {
            return String.valueOf(asked(x, call));
        } catch (RuntimeException e) {
            // The machine writes such texts; the class must throw by itself.
            boolean byMachine = String.valueOf(e.getMessage()).contains("out of bounds for");
            return (byMachine ? "throws by the machine." : "throws.") + e.getClass().getSimpleName();
        }
    }

    private static final String[] NAMES = {
        "leaf", "number", "node", "load", "cofactor", "sample", "check", "rowAt", "counted", "terms",
        "term", "deep", "alike", "count", "clear",
    };

    /** How often each call had each sort of answer, to see that the runs reach something. */
    private static final Map<String, Integer> REACHED = new java.util.TreeMap<>();

    private static void note(int[] call, String answer) {
        String sort = answer.startsWith("throws") ? answer
                : answer.equals("0") || answer.equals("-1") ? answer : "n";
        REACHED.merge(NAMES[call[0]] + " " + sort, 1, Integer::sum);
    }

    private String got(int[] call) {
        used++;
        return got(checker, call);
    }

    private int run(int seed) {
        for (int i = 0; i < calls; i++) {
            int[] call = nextCall();
            String due = due(plain, call);
            String got = got(call);
            made.add(call);
            note(call, due);
            if (!due.equals(got)) {
                System.out.println("run " + seed + ", call " + i + ": " + told(call)
                        + " answered " + got + ", due is " + due);
                return 1;
            }
        }
        return calls < MOST_CALLS ? compareAll(seed) : 0;
    }

    private static String told(int[] call) {
        return NAMES[call[0]] + java.util.Arrays.toString(call);
    }

    /** An object may be asked only so often: then the same calls make another one. */
    private int comparedAtTheEnd(int seed, int... call) {
        if (used == MOST_CALLS) {
            checker = new SmallChecker();
            used = 0;
            for (int[] old : made) {
                got(old);
            }
        }
        String due = due(plain, call);
        String got = got(call);
        if (due.equals(got)) {
            return 0;
        }
        System.out.println("run " + seed + ", at the end: " + told(call) + " answered " + got + ", due is " + due);
        return 1;
    }

    /** At the end of a run everything that can be asked for is the same. */
    private int compareAll(int seed) {
        int wrong = 0;
        for (int t = 0; t < plain.shapes.size(); t++) {
            wrong += comparedAtTheEnd(seed, 9, t);
            wrong += comparedAtTheEnd(seed, 11, t);
            Map<List<Integer>, BigInteger> p = plain.polynomials.get(t);
            if (p != null) {
                for (List<Integer> k : p.keySet()) {
                    wrong += comparedAtTheEnd(seed, 10, t, k.get(0), k.get(1), k.get(2));
                }
            }
            for (int u = 0; u < t; u++) {
                wrong += comparedAtTheEnd(seed, 12, t, u);
            }
        }
        for (int r = 0; r < plain.rows.size(); r++) {
            wrong += comparedAtTheEnd(seed, 6, r, r + 1);
            wrong += comparedAtTheEnd(seed, 8, r);
            for (int what = 0; what < 8; what++) {
                wrong += comparedAtTheEnd(seed, 7, r, what);
            }
            String sort = plain.rows.get(r)[0] + (plain.check(r, r + 1) == 0 ? " holds" : " doesn't");
            REACHED.merge("kind " + sort, 1, Integer::sum);
        }
        return wrong;
    }

    public static void main(String[] args) {
        int wrong = 0;
        for (int seed = 0; seed < RUNS; seed++) {
            wrong += new ModelTest(seed).run(seed);
        }
        if (args.length > 0) {
            System.out.println(REACHED);
        }
        System.out.println(RUNS + " runs, " + wrong + " answers not as due");
        if (wrong != 0) {
            System.exit(1);
        }
    }
}
