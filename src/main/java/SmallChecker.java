/**
 * A small checker: trees become polynomials in three letters, with whole numbers, and rows that
 * claim something about trees are checked by multiplying out.
 */
public final class SmallChecker {
    private static final int MOST_TREES = 120;
    private static final int MOST_ROWS = 60;
    private static final int MOST_TERMS = 40;
    private static final int MOST_DEGREE = 9;
    private static final int MOST_NUMBER = 1000000;
    private static final int MOST_DEEP = 20;
    private static final int MOST_SAMPLE = 10;
    private static final int LETTERS = 3;
    private static final int NONE = -1;

    private static final int SUM = 0;
    private static final int LESS = 1;
    private static final int PRODUCT = 2;
    private static final int SQUARE = 3;
    private static final int OPPOSITE = 4;
    private static final int THIRD_POWER = 5;
    // Behind the heads, so that one field tells every sort of tree apart.
    private static final int LETTER = 6;
    private static final int NUMBER = 7;

    private static final int SAME = 0;
    private static final int DERIVATION = 1;
    private static final int MULTIPLE = 2;
    private static final int ROOT = 3;
    private static final int SAME_VALUE = 4;
    private static final int POSITIVE = 5;
    private static final int DIVISOR = 6;
    private static final int KINDS = 7;
    // Of each kind, how many of its fields are trees; they always stand ahead of the others.
    private static final int[] TREE_FIELDS = {2, 2, 3, 1, 2, 1, 2};

    // A row is laid out as rowAt tells it.
    private static final int KIND_AT = 0;
    private static final int FIELDS_AT = 1;
    private static final int COFACTOR_AT = 4;
    private static final int SAMPLE_AT = 5;
    private static final int ROW_LENGTH = 8;

    // The powers of the three letters are the digits of one number, their key: none is above 9.
    private static final int KEYS = 1000;
    // So many keys there are whose digits together are at most 9.
    private static final int MOST_KEYS_USED = 220;

    private final Tree[] trees = new Tree[MOST_TREES];
    private final int[][] rows = new int[MOST_ROWS][ROW_LENGTH];
    private final Sheet sheet = new Sheet();
    private final Polynomial zero = new Polynomial();
    private int treeCount;
    private int rowCount;

    public SmallChecker() {
        treeCount = 0;
        rowCount = 0;
    }

    public int leaf(int name) throws IllegalArgumentException, IllegalStateException {
        if (!isLetter(name)) {
            throw new IllegalArgumentException("no such letter");
        }
        Tree tree = nextTree();
        tree.polynomial.becomeZero();
        tree.polynomial.append(keyOfLetter(name), 1);
        return keep(tree, LETTER, name, NONE, 0);
    }

    public int number(int v) throws IllegalArgumentException, IllegalStateException {
        if (v < -MOST_NUMBER || v > MOST_NUMBER) {
            throw new IllegalArgumentException("no such number");
        }
        Tree tree = nextTree();
        tree.polynomial.becomeZero();
        tree.polynomial.append(0, v);
        return keep(tree, NUMBER, v, NONE, 0);
    }

    public int node(int head, int a, int b)
            throws ArrayIndexOutOfBoundsException, IllegalArgumentException, IllegalStateException {
        Tree first = treeAt(a);
        Tree second = treeAt(b);
        boolean ofOne = head >= SQUARE;
        if (first == null || (second == null && !(ofOne && b == NONE))) {
            throw new ArrayIndexOutOfBoundsException("no such tree");
        }
        if (head < SUM || head > THIRD_POWER || (ofOne && b != NONE)) {
            throw new IllegalArgumentException("no such node");
        }
        // A head of one tree works on that tree twice, so that no branch below need ask again.
        Tree other = second == null ? first : second;
        int depth = 1 + Math.max(first.depth, other.depth);
        if (depth > MOST_DEEP) {
            throw new IllegalArgumentException("too deep");
        }
        Tree tree = nextTree();
        workOut(tree.polynomial, head, first.polynomial, other.polynomial);
        return keep(tree, head, first.model, ofOne ? NONE : other.model, depth);
    }

    public int load(int kind, int a, int b, int c)
            throws ArrayIndexOutOfBoundsException, IllegalArgumentException, IllegalStateException {
        int treeFields = treeFieldsOf(kind);
        if (treeAt(a) == null
                || (treeFields > 1 && treeAt(b) == null)
                || (treeFields > 2 && treeAt(c) == null)) {
            throw new ArrayIndexOutOfBoundsException("no such tree");
        }
        if (!fits(kind, b, c)) {
            throw new IllegalArgumentException("no such row");
        }
        if (rowCount >= MOST_ROWS) {
            throw new IllegalStateException("60 rows are there");
        }
        fillRow(rows[rowCount], kind, a, b, c);
        rowCount++;
        return rowCount - 1;
    }

    public void cofactor(int row, int tree)
            throws ArrayIndexOutOfBoundsException, IllegalArgumentException {
        if (!isRow(row) || treeAt(tree) == null) {
            throw new ArrayIndexOutOfBoundsException("no such row or tree");
        }
        if (rows[row][KIND_AT] != DIVISOR) {
            throw new IllegalArgumentException("a row of this kind has no cofactor");
        }
        rows[row][COFACTOR_AT] = tree;
    }

    public void sample(int row, int letter, int v)
            throws ArrayIndexOutOfBoundsException, IllegalArgumentException {
        if (!isRow(row) || !isLetter(letter)) {
            throw new ArrayIndexOutOfBoundsException("no such row or letter");
        }
        if (!isSampleNumber(v)) {
            throw new IllegalArgumentException("no such number in a sample");
        }
        rows[row][SAMPLE_AT + letter] = v;
    }

    public int check(int from, int to) throws ArrayIndexOutOfBoundsException {
        if (from < 0 || to > rowCount) {
            throw new ArrayIndexOutOfBoundsException("no such rows");
        }
        for (int row = from; row < to; row++) {
            if (!holds(rows[row])) {
                return row + 1;
            }
        }
        return 0;
    }

    public int rowAt(int row, int what) throws ArrayIndexOutOfBoundsException {
        if (!isRow(row) || what < 0 || what >= ROW_LENGTH) {
            throw new ArrayIndexOutOfBoundsException("nothing such in a row");
        }
        return rows[row][what];
    }

    public int counted(int row) throws ArrayIndexOutOfBoundsException {
        if (!isRow(row)) {
            throw new ArrayIndexOutOfBoundsException("no such row");
        }
        int together = 0;
        int treeFields = treeFieldsOf(rows[row][KIND_AT]);
        for (int field = 0; field < treeFields; field++) {
            Polynomial p = polynomialOf(rows[row][FIELDS_AT + field]);
            together += p.isTooGreat() ? 0 : p.size;
        }
        return together;
    }

    public int terms(int tree) throws ArrayIndexOutOfBoundsException {
        Polynomial asked = existingTree(tree).polynomial;
        return asked.isTooGreat() ? -1 : asked.size;
    }

    public int term(int tree, int i, int j, int k)
            throws ArrayIndexOutOfBoundsException, IllegalStateException {
        Polynomial asked = existingTree(tree).polynomial;
        if (asked.isTooGreat()) {
            throw new IllegalStateException("the tree is too great");
        }
        if (!isPower(i) || !isPower(j) || !isPower(k)) {
            return 0;
        }
        return asked.numberAt(i * 100 + j * 10 + k);
    }

    public int deep(int tree) throws ArrayIndexOutOfBoundsException {
        return existingTree(tree).depth;
    }

    public boolean alike(int a, int b) throws ArrayIndexOutOfBoundsException {
        return existingTree(a).model == existingTree(b).model;
    }

    public int count(int what) {
        switch (what) {
            case 0:
                return treeCount;
            case 1:
                return rowCount;
            case 2:
                return KINDS;
            default:
                return -1;
        }
    }

    public void clear() {
        treeCount = 0;
        rowCount = 0;
    }

    private static boolean isLetter(int letter) {
        return letter >= 0 && letter < LETTERS;
    }

    private static boolean isSampleNumber(int v) {
        return v >= -MOST_SAMPLE && v <= MOST_SAMPLE;
    }

    private static boolean isPower(int power) {
        return power >= 0 && power <= MOST_DEGREE;
    }

    private boolean isRow(int row) {
        return row >= 0 && row < rowCount;
    }

    /** The tree of this number, or null: there is none such. */
    private Tree treeAt(int tree) {
        return tree >= 0 && tree < treeCount ? trees[tree] : null;
    }

    private Tree existingTree(int tree) {
        Tree found = treeAt(tree);
        if (found == null) {
            throw new ArrayIndexOutOfBoundsException("no such tree");
        }
        return found;
    }

    /** The polynomial of a field's tree; 0 for a field without a tree, which no kind looks at. */
    private Polynomial polynomialOf(int field) {
        Tree tree = treeAt(field);
        return tree == null ? zero : tree.polynomial;
    }

    /** The place of the next tree. Trees are made once and used again after clear, to save room. */
    private Tree nextTree() {
        if (treeCount >= MOST_TREES) {
            throw new IllegalStateException("120 trees are there");
        }
        Tree tree = trees[treeCount];
        if (tree == null) {
            tree = new Tree();
            trees[treeCount] = tree;
        }
        return tree;
    }

    private int keep(Tree tree, int head, int first, int second, int depth) {
        tree.head = head;
        tree.first = first;
        tree.second = second;
        tree.depth = depth;
        tree.model = modelOf(tree);
        treeCount++;
        return treeCount - 1;
    }

    /**
     * The first tree that is built like this new one, or its own number. Its parts are models
     * already, so looking one level down is enough, however often a tree uses another one.
     */
    private int modelOf(Tree tree) {
        for (int i = 0; i < treeCount; i++) {
            Tree old = treeAt(i);
            if (old != null && old.head == tree.head
                    && old.first == tree.first && old.second == tree.second) {
                return i;
            }
        }
        return treeCount;
    }

    private void workOut(Polynomial to, int head, Polynomial p, Polynomial q) {
        if (p.isTooGreat() || q.isTooGreat()) {
            to.becomeTooGreat();
            return;
        }
        sheet.wipe();
        switch (head) {
            case SUM:
                sheet.addMultiple(p, 1);
                sheet.addMultiple(q, 1);
                break;
            case LESS:
                sheet.addMultiple(p, 1);
                sheet.addMultiple(q, -1);
                break;
            case OPPOSITE:
                sheet.addMultiple(p, -1);
                break;
            case PRODUCT:
            case SQUARE:
            case THIRD_POWER:
            default:
                sheet.addProduct(p, q);
                break;
        }
        sheet.copyTo(to);
        // The square stands in the new tree now: a third power is too great if the square is.
        if (head == THIRD_POWER && !to.isTooGreat()) {
            sheet.wipe();
            sheet.addProduct(to, p);
            sheet.copyTo(to);
        }
    }

    /** Of a kind that there isn't, the first field alone is looked at as a tree. */
    private static int treeFieldsOf(int kind) {
        return kind >= 0 && kind < KINDS ? TREE_FIELDS[kind] : 1;
    }

    private static boolean fits(int kind, int b, int c) {
        switch (kind) {
            case SAME:
            case SAME_VALUE:
            case DIVISOR:
                return c == NONE;
            case DERIVATION:
                return isLetter(c);
            case MULTIPLE:
                return true;
            case ROOT:
                return isSampleNumber(b) && isLetter(c);
            case POSITIVE:
                return b == NONE && c == NONE;
            default:
                return false;
        }
    }

    private static void fillRow(int[] row, int kind, int a, int b, int c) {
        row[KIND_AT] = kind;
        row[FIELDS_AT] = a;
        row[FIELDS_AT + 1] = b;
        row[FIELDS_AT + 2] = c;
        row[COFACTOR_AT] = NONE;
        for (int letter = 0; letter < LETTERS; letter++) {
            row[SAMPLE_AT + letter] = 0;
        }
    }

    private boolean hasTooGreat(int[] row) {
        int treeFields = treeFieldsOf(row[KIND_AT]);
        for (int field = 0; field < treeFields; field++) {
            if (polynomialOf(row[FIELDS_AT + field]).isTooGreat()) {
                return true;
            }
        }
        return polynomialOf(row[COFACTOR_AT]).isTooGreat();
    }

    private boolean holds(int[] row) {
        if (hasTooGreat(row)) {
            return false;
        }
        Polynomial a = polynomialOf(row[FIELDS_AT]);
        int b = row[FIELDS_AT + 1];
        int c = row[FIELDS_AT + 2];
        switch (row[KIND_AT]) {
            case SAME:
                return isSame(a, polynomialOf(b));
            case DERIVATION:
                return isDerivation(a, polynomialOf(b), c);
            case MULTIPLE:
                return isProduct(a, polynomialOf(b), polynomialOf(c));
            case ROOT:
                return isRoot(a, b, c);
            case SAME_VALUE:
                return valueAt(a, row) == valueAt(polynomialOf(b), row);
            case POSITIVE:
                return valueAt(a, row) > 0;
            case DIVISOR:
                return row[COFACTOR_AT] != NONE && polynomialOf(b).size != 0
                        && isProduct(a, polynomialOf(b), polynomialOf(row[COFACTOR_AT]));
            default:
                return false;
        }
    }

    private boolean isSame(Polynomial a, Polynomial b) {
        sheet.wipe();
        sheet.addMultiple(a, 1);
        sheet.addMultiple(b, -1);
        return sheet.isZero();
    }

    private boolean isDerivation(Polynomial a, Polynomial b, int letter) {
        sheet.wipe();
        sheet.addDerivation(a, letter);
        sheet.addMultiple(b, -1);
        return sheet.isZero();
    }

    private boolean isProduct(Polynomial a, Polynomial b, Polynomial c) {
        sheet.wipe();
        sheet.addProduct(b, c);
        sheet.addMultiple(a, -1);
        return sheet.isZero();
    }

    private boolean isRoot(Polynomial a, int v, int letter) {
        sheet.wipe();
        sheet.addWithNumber(a, v, letter);
        return sheet.isZero();
    }

    /** No value leaves the range of long: 40 terms, numbers to 10^6, ten to the ninth power. */
    private static long valueAt(Polynomial p, int[] row) {
        long value = 0;
        for (int i = 0; i < p.size; i++) {
            long product = p.numbers[i];
            for (int letter = 0; letter < LETTERS; letter++) {
                product *= power(row[SAMPLE_AT + letter], powerIn(p.keys[i], letter));
            }
            value += product;
        }
        return value;
    }

    private static long power(int base, int exponent) {
        long product = 1;
        for (int i = 0; i < exponent; i++) {
            product *= base;
        }
        return product;
    }

    private static int keyOfLetter(int letter) {
        return letter == 0 ? 100 : letter == 1 ? 10 : 1;
    }

    private static int powerIn(int key, int letter) {
        return letter == 0 ? key / 100 : letter == 1 ? key / 10 % 10 : key % 10;
    }

    private static int degreeOf(int key) {
        return powerIn(key, 0) + powerIn(key, 1) + powerIn(key, 2);
    }

    /**
     * A tree. Of a node, first and second are the models of its trees; of a letter or a number,
     * first is that letter or number.
     */
    private static final class Tree {
        private final Polynomial polynomial = new Polynomial();
        private int head;
        private int first;
        private int second;
        private int depth;
        private int model;
    }

    /** A polynomial within the limits, each key in it once and no number 0, or too great. */
    private static final class Polynomial {
        private final int[] keys = new int[MOST_TERMS];
        private final int[] numbers = new int[MOST_TERMS];
        private int size;
        private int degree;
        private boolean great;

        private boolean isTooGreat() {
            return great;
        }

        private void becomeZero() {
            size = 0;
            degree = 0;
            great = false;
        }

        private void becomeTooGreat() {
            size = 0;
            degree = 0;
            great = true;
        }

        private void append(int key, long value) {
            if (great || value == 0) {
                return;
            }
            if (size >= MOST_TERMS || value < -MOST_NUMBER || value > MOST_NUMBER) {
                becomeTooGreat();
                return;
            }
            keys[size] = key;
            numbers[size] = (int) value;
            size++;
            degree = Math.max(degree, degreeOf(key));
        }

        private int numberAt(int key) {
            for (int i = 0; i < size; i++) {
                if (keys[i] == key) {
                    return numbers[i];
                }
            }
            return 0;
        }
    }

    /**
     * Where terms are gathered before any limit is asked for: a sum may pass through numbers that
     * would be too great and come back. Wiping it costs only what was written on it.
     */
    private static final class Sheet {
        // Of each key, 1 plus where it stands in the lines below; 0 if it isn't written yet.
        private final int[] lineOf = new int[KEYS];
        private final int[] keys = new int[MOST_KEYS_USED];
        private final long[] numbers = new long[MOST_KEYS_USED];
        private int used;
        private boolean tooHigh;

        private void wipe() {
            for (int i = 0; i < used; i++) {
                lineOf[keys[i]] = 0;
            }
            used = 0;
            tooHigh = false;
        }

        private void add(int key, long value) {
            if (key < 0 || key >= KEYS) {
                tooHigh = true;
                return;
            }
            if (lineOf[key] > 0) {
                numbers[lineOf[key] - 1] += value;
                return;
            }
            if (used >= MOST_KEYS_USED) {
                tooHigh = true;
                return;
            }
            keys[used] = key;
            numbers[used] = value;
            used++;
            lineOf[key] = used;
        }

        private void addMultiple(Polynomial p, int factor) {
            for (int i = 0; i < p.size; i++) {
                add(p.keys[i], (long) factor * p.numbers[i]);
            }
        }

        /**
         * The terms of the highest degree of two polynomials never cancel out in their product, so
         * the degrees alone (that of 0 is 0) tell that it is too high; below that no digit of a key
         * runs over.
         */
        private void addProduct(Polynomial p, Polynomial q) {
            if (p.degree + q.degree > MOST_DEGREE) {
                tooHigh = true;
                return;
            }
            for (int i = 0; i < p.size; i++) {
                for (int j = 0; j < q.size; j++) {
                    add(p.keys[i] + q.keys[j], (long) p.numbers[i] * q.numbers[j]);
                }
            }
        }

        private void addDerivation(Polynomial p, int letter) {
            for (int i = 0; i < p.size; i++) {
                int exponent = powerIn(p.keys[i], letter);
                if (exponent > 0) {
                    add(p.keys[i] - keyOfLetter(letter), (long) exponent * p.numbers[i]);
                }
            }
        }

        private void addWithNumber(Polynomial p, int v, int letter) {
            for (int i = 0; i < p.size; i++) {
                int exponent = powerIn(p.keys[i], letter);
                add(p.keys[i] - exponent * keyOfLetter(letter), p.numbers[i] * power(v, exponent));
            }
        }

        private boolean isZero() {
            for (int i = 0; i < used; i++) {
                if (numbers[i] != 0) {
                    return false;
                }
            }
            return !tooHigh;
        }

        private void copyTo(Polynomial p) {
            p.becomeZero();
            for (int i = 0; i < used; i++) {
                p.append(keys[i], numbers[i]);
            }
            if (tooHigh) {
                p.becomeTooGreat();
            }
        }
    }
}
