/**
 * What the document says of rows, kinds, samples and cofactors at their bounds (its "Terms",
 * promises 5 to 10), one method for each sentence, or part of one, that names a bound.
 */
public final class RowBoundsTest {
    private static final int MIN = Integer.MIN_VALUE;
    private static final int MAX = Integer.MAX_VALUE;

    /** A row of each kind, row i of kind i; the letters must be the trees 0, 1, 2. */
    private static void loadOneOfEach(Run run) {
        int[][] fields = {{0, 1, -1}, {0, 1, 2}, {0, 1, 2}, {0, 1, 2}, {0, 1, -1}, {0, -1, -1}, {0, 1, -1}};
        for (int kind = 0; kind < 7; kind++) {
            run.due(kind, "load", kind, fields[kind][0], fields[kind][1], fields[kind][2]);
        }
    }

    /** Whether a new row with these fields holds. */
    private static void dueHolds(boolean want, Run run, int kind, int a, int b, int c) {
        int row = run.make("load", kind, a, b, c);
        dueRowHolds(want, run, row);
    }

    private static void dueRowHolds(boolean want, Run run, int row) {
        run.due(want ? 0 : row + 1, "check", row, row + 1);
    }

    private static void setSample(Run run, int row, int x, int y, int z) {
        run.done("sample", row, 0, x);
        run.done("sample", row, 1, y);
        run.done("sample", row, 2, z);
    }

    // Rows: which there are, and what can be one.

    private static void numbersFromZeroOn() {
        Run run = Run.withLetters("ROWS .. have numbers from 0 on");
        run.index("rowAt", 0, 0);
        loadOneOfEach(run);
        for (int kind = 0; kind < 7; kind++) {
            run.due(kind, "rowAt", kind, 0);
        }
        run.index("rowAt", -1, 0);
        run.index("rowAt", 7, 0);
    }

    private static void atMost60() {
        for (int last = 0; last < 7; last++) {
            Run run = Run.withLetters("ROWS, at most 60; IllegalStateException: 60 are there");
            run.fillRows(59, 1);
            int b = last == 5 ? -1 : 2;
            int c = last == 1 || last == 2 || last == 3 ? 2 : -1;
            run.due(59, "load", last, 1, b, c);
            run.due(60, "count", 1);
            for (int kind = 0; kind < 7; kind++) {
                run.state("load", kind, 0, kind == 5 ? -1 : 0, kind == 1 || kind == 2 || kind == 3 ? 0 : -1);
            }
            run.due(last, "rowAt", 59, 0);
            run.index("rowAt", 60, 0);
        }
    }

    private static void kinds() {
        Run run = Run.withLetters("IllegalArgumentException: no such KIND");
        run.argument("load", -1, 0, 0, -1);
        run.argument("load", 7, 0, 0, -1);
        loadOneOfEach(run);
        run.argument("load", -1, 0, -1, -1);
        run.argument("load", 7, 0, -1, -1);
        run.argument("load", 7, 0, 0, 0);
        run.argument("load", MIN, 0, 0, -1);
        run.argument("load", MAX, 0, 0, -1);
        run.due(7, "count", 1);
    }

    private static void treesOfARow() {
        int[] treeFields = {2, 2, 3, 1, 2, 1, 2};
        int[][] inside = {{0, 0, -1}, {0, 0, 0}, {0, 0, 0}, {0, 0, 0}, {0, 0, -1}, {0, -1, -1}, {0, 0, -1}};
        for (int kind = 0; kind < 7; kind++) {
            Run run = Run.withLetters("ArrayIndexOutOfBoundsException: a tree isn't there");
            for (int field = 0; field < treeFields[kind]; field++) {
                int[] call = {kind, inside[kind][0], inside[kind][1], inside[kind][2]};
                for (int outside : new int[] {-1, 3, -2, 120, MIN, MAX}) {
                    call[1 + field] = outside;
                    run.index("load", call.clone());
                }
                for (int tree = 0; tree < 3; tree++) {
                    call[1 + field] = tree;
                    int row = run.make("load", call.clone());
                    run.due(tree, "rowAt", row, 1 + field);
                }
            }
        }
    }

    private static void treesInAnEmptyObject() {
        Run run = new Run("ArrayIndexOutOfBoundsException: a tree isn't there (none at all)");
        for (int kind = -1; kind <= 7; kind++) {
            run.index("load", kind, 0, kind == 5 ? -1 : 0, kind == 1 || kind == 2 || kind == 3 ? 0 : -1);
            run.index("load", kind, -1, -1, -1);
        }
    }

    private static void treeOfAKindThatThereIsnt() {
        Run run = Run.withLetters("a tree isn't there (of a KIND that there isn't, a)");
        for (int kind : new int[] {-1, 7, MIN, MAX}) {
            run.index("load", kind, -1, 0, 0);
            run.index("load", kind, 3, 0, 0);
            run.argument("load", kind, 0, 3, 3);
            run.argument("load", kind, 2, -1, MIN);
        }
    }

    private static void lettersOfARow() {
        Run run = Run.withLetters("l is a letter; IllegalArgumentException: no such .. letter");
        for (int kind = 1; kind <= 3; kind += 2) {
            run.argument("load", kind, 0, 0, -1);
            run.argument("load", kind, 0, 0, 3);
            run.argument("load", kind, 0, 0, MIN);
            run.argument("load", kind, 0, 0, MAX);
            for (int letter = 0; letter < 3; letter++) {
                int row = run.make("load", kind, 0, 0, letter);
                run.due(letter, "rowAt", row, 3);
            }
        }
    }

    private static void numberOfARow() {
        Run run = Run.withLetters("v -10 .. 10; IllegalArgumentException: no such .. v");
        for (int outside : new int[] {-11, 11, MIN, MAX}) {
            run.argument("load", 3, 0, outside, 0);
        }
        for (int v = -10; v <= 10; v++) {
            int row = run.make("load", 3, 0, v, 0);
            run.due(v, "rowAt", row, 2);
        }
    }

    private static void fieldsThatThereArent() {
        Run run = Run.withLetters("-1 where there is none; IllegalArgumentException: a field isn't -1 that must be");
        for (int outside : new int[] {0, -2, 1, 2, MIN, MAX}) {
            run.argument("load", 0, 0, 0, outside);
            run.argument("load", 4, 0, 0, outside);
            run.argument("load", 6, 0, 0, outside);
            run.argument("load", 5, 0, outside, -1);
            run.argument("load", 5, 0, -1, outside);
            run.argument("load", 5, 0, outside, outside);
        }
        run.due(0, "load", 0, 0, 0, -1);
        run.due(1, "load", 4, 0, 0, -1);
        run.due(2, "load", 6, 0, 0, -1);
        run.due(3, "load", 5, 0, -1, -1);
    }

    // Samples and cofactors.

    private static void sampleAtFirst() {
        Run run = Run.withLetters("A SAMPLE of each row gives the letters numbers, 0 at first");
        loadOneOfEach(run);
        for (int row = 0; row < 7; row++) {
            for (int letter = 0; letter < 3; letter++) {
                run.due(0, "rowAt", row, 5 + letter);
                run.done("sample", row, letter, row + letter);
            }
        }
        for (int row = 0; row < 7; row++) {
            for (int letter = 0; letter < 3; letter++) {
                run.due(row + letter, "rowAt", row, 5 + letter);
            }
        }
        run.due(7, "load", 4, 0, 0, -1);
        run.due(0, "rowAt", 7, 5);
    }

    private static void sampleNumbers() {
        Run run = Run.withLetters("IllegalArgumentException: v isn't -10 .. 10");
        run.make("load", 5, 0, -1, -1);
        for (int letter = 0; letter < 3; letter++) {
            for (int v = -10; v <= 10; v++) {
                run.done("sample", 0, letter, v);
                run.due(v, "rowAt", 0, 5 + letter);
            }
            run.done("sample", 0, letter, -10);
            for (int outside : new int[] {-11, 11, MIN, MAX}) {
                run.argument("sample", 0, letter, outside);
            }
            run.due(-10, "rowAt", 0, 5 + letter);
        }
    }

    private static void sampleLetters() {
        Run run = Run.withLetters("ArrayIndexOutOfBoundsException: also if there is no such letter");
        loadOneOfEach(run);
        for (int outside : new int[] {-1, 3, -5, -6, MIN, MAX}) {
            run.index("sample", 5, outside, 1);
        }
        for (int outside : new int[] {-1, 7, MIN, MAX}) {
            run.index("sample", outside, 0, 1);
        }
        run.done("sample", 0, 0, 1);
        run.done("sample", 6, 2, 1);
    }

    private static void cofactorAtFirst() {
        Run run = Run.withLetters("a COFACTOR is a tree, none at first; -1 for none");
        loadOneOfEach(run);
        run.due(7, "load", 6, 0, 0, -1);
        for (int row = 0; row < 8; row++) {
            run.due(-1, "rowAt", row, 4);
        }
        for (int tree = 0; tree < 3; tree++) {
            run.done("cofactor", 6, tree);
            run.due(tree, "rowAt", 6, 4);
        }
        run.due(-1, "rowAt", 7, 4);
        for (int outside : new int[] {-1, 3, MIN, MAX}) {
            run.index("cofactor", 6, outside);
        }
        run.due(2, "rowAt", 6, 4);
        for (int outside : new int[] {-1, 8, MIN, MAX}) {
            run.index("cofactor", outside, 0);
        }
    }

    private static void cofactorOfOtherKinds() {
        Run run = Run.withLetters("IllegalArgumentException: it isn't of KIND 6");
        loadOneOfEach(run);
        for (int row = 0; row < 6; row++) {
            run.argument("cofactor", row, 0);
            run.argument("cofactor", row, 2);
            run.due(-1, "rowAt", row, 4);
        }
        run.done("cofactor", 6, 0);
    }

    private static void emptyObject() {
        Run run = new Run("ArrayIndexOutOfBoundsException: no such .. row (none at all)");
        run.index("cofactor", 0, 0);
        run.index("sample", 0, 0, 0);
        run.index("rowAt", 0, 0);
        run.index("counted", 0);
        run.index("check", 0, 1);
        run.due(0, "check", 0, 0);
        run.make("leaf", 0);
        run.index("cofactor", 0, 0);
        run.index("sample", 0, 0, 0);
    }

    // Which rows hold.

    /** Each claim holds with 0 in all its fields (or 1), and doesn't with a great tree in one of them. */
    private static void noFieldIsTooGreat() {
        Run run = Run.withLetters("A row HOLDS if no tree among its fields .. is TOO GREAT");
        int zero = run.make("number", 0);
        int one = run.make("number", 1);
        int great = run.great();
        int stillGreat = run.make("node", 2, great, zero);
        dueHolds(true, run, 0, zero, zero, -1);
        dueHolds(true, run, 4, zero, zero, -1);
        dueHolds(true, run, 1, zero, zero, 0);
        dueHolds(true, run, 2, zero, zero, zero);
        dueHolds(true, run, 3, zero, 1, 0);
        dueHolds(true, run, 5, one, -1, -1);
        for (int tree : new int[] {great, stillGreat}) {
            for (int kind = 0; kind <= 4; kind += 4) {
                dueHolds(false, run, kind, tree, zero, -1);
                dueHolds(false, run, kind, zero, tree, -1);
                dueHolds(false, run, kind, tree, tree, -1);
            }
            dueHolds(false, run, 1, tree, zero, 0);
            dueHolds(false, run, 1, zero, tree, 0);
            dueHolds(false, run, 2, tree, zero, zero);
            dueHolds(false, run, 2, zero, tree, zero);
            dueHolds(false, run, 2, zero, zero, tree);
            dueHolds(false, run, 3, tree, 1, 0);
            dueHolds(false, run, 5, tree, -1, -1);
        }
    }

    private static void noCofactorIsTooGreat() {
        Run run = Run.withLetters("(or its COFACTOR, of KIND 6) is TOO GREAT");
        int zero = run.make("number", 0);
        int great = run.make("node", 2, run.great(), zero);
        int row = run.make("load", 6, zero, 0, -1);
        run.done("cofactor", row, zero);
        dueRowHolds(true, run, row);
        run.done("cofactor", row, great);
        dueRowHolds(false, run, row);
        run.done("cofactor", row, zero);
        dueRowHolds(true, run, row);
        int ofGreat = run.make("load", 6, great, 0, -1);
        run.done("cofactor", ofGreat, zero);
        dueRowHolds(false, run, ofGreat);
        int byGreat = run.make("load", 6, zero, great, -1);
        run.done("cofactor", byGreat, zero);
        dueRowHolds(false, run, byGreat);
    }

    /** The trees 1 and 2 are too great: a letter or v of that number is no tree. */
    private static void fieldsThatAreNoTrees() {
        Run run = new Run("no tree among its fields (a letter or v isn't one)");
        run.great();
        run.make("node", 0, 1, 1);
        int zero = run.make("number", 0);
        for (int number = 1; number <= 2; number++) {
            dueHolds(true, run, 1, zero, zero, number);
            dueHolds(true, run, 3, zero, number, number);
        }
        dueHolds(false, run, 1, zero, 1, 2);
        dueHolds(false, run, 3, 1, 2, 2);
    }

    private static void kind0() {
        Run run = Run.withLetters("KIND 0: the POLYNOMIALS of a and b are the same");
        int zero = run.make("number", 0);
        int forty = run.forty();
        int last = run.monomial(1, 4, 3, 1);
        int less = run.make("node", 1, forty, last);
        int most = run.make("number", 1000000);
        int nearly = run.make("number", 999999);
        dueHolds(true, run, 0, zero, run.make("node", 1, forty, forty), -1);
        dueHolds(true, run, 0, forty, run.make("node", 0, last, less), -1);
        dueHolds(false, run, 0, forty, less, -1);
        dueHolds(false, run, 0, less, forty, -1);
        dueHolds(false, run, 0, most, nearly, -1);
        dueHolds(false, run, 0, most, run.make("number", -1000000), -1);
        dueHolds(false, run, 0, most, zero, -1);
        dueHolds(false, run, 0, zero, most, -1);
        dueHolds(true, run, 0, most, run.make("node", 0, nearly, run.make("number", 1)), -1);
        dueHolds(false, run, 0, 0, 1, -1);
        dueHolds(false, run, 0, run.monomial(1, 9, 0, 0), run.monomial(1, 0, 9, 0), -1);
    }

    private static void kind1() {
        Run run = Run.withLetters("KIND 1: b's is the derivation of a's by the letter l");
        int zero = run.make("number", 0);
        int one = run.make("number", 1);
        for (int l = 0; l < 3; l++) {
            dueHolds(true, run, 1, zero, zero, l);
            dueHolds(true, run, 1, one, zero, l);
            dueHolds(false, run, 1, one, one, l);
            dueHolds(true, run, 1, l, one, l);
            dueHolds(true, run, 1, (l + 1) % 3, zero, l);
            dueHolds(false, run, 1, (l + 1) % 3, one, l);
            int ninth = run.monomial(1, l == 0 ? 9 : 0, l == 1 ? 9 : 0, l == 2 ? 9 : 0);
            dueHolds(true, run, 1, ninth, run.monomial(9, l == 0 ? 8 : 0, l == 1 ? 8 : 0, l == 2 ? 8 : 0), l);
            dueHolds(false, run, 1, ninth, zero, l);
        }
    }

    /** The derivation may have a number that no tree can have: then no b is right. */
    private static void kind1AtTheBound() {
        for (int sign = -1; sign <= 1; sign += 2) {
            Run run = Run.withLetters("KIND 1: the derivation (at the bound of numbers)");
            int inside = run.monomial(sign * 500000, 2, 0, 0);
            int outside = run.monomial(sign * 500001, 2, 0, 0);
            int most = run.monomial(sign * 1000000, 1, 0, 0);
            dueHolds(true, run, 1, inside, most, 0);
            dueHolds(false, run, 1, outside, most, 0);
            dueHolds(false, run, 1, outside, run.make("number", 0), 0);
            dueHolds(true, run, 1, run.monomial(sign * 111111, 1, 8, 0), run.monomial(sign * 888888, 1, 7, 0), 1);
        }
    }

    private static void kind2() {
        Run run = Run.withLetters("KIND 2: a's is the product of b's and c's");
        int zero = run.make("number", 0);
        int thousand = run.make("number", 1000);
        int more = run.make("number", 1001);
        int most = run.make("number", 1000000);
        dueHolds(true, run, 2, zero, zero, 0);
        dueHolds(true, run, 2, zero, 0, zero);
        dueHolds(false, run, 2, 0, 0, zero);
        dueHolds(false, run, 2, zero, 0, 0);
        dueHolds(true, run, 2, most, thousand, thousand);
        dueHolds(false, run, 2, most, thousand, more);
        dueHolds(false, run, 2, most, most, most);
        // In 32 bits these products would be the numbers on the left.
        int wrapped = run.make("number", 65536);
        dueHolds(false, run, 2, zero, wrapped, wrapped);
        int other = run.make("number", 92682);
        dueHolds(false, run, 2, run.make("number", 18532), other, other);
    }

    private static void kind2Degree() {
        for (int l = 0; l < 3; l++) {
            Run run = Run.withLetters("KIND 2: the product (of a degree of 9 and above)");
            int zero = run.make("number", 0);
            int fourth = run.monomial(1, l == 0 ? 4 : 0, l == 1 ? 4 : 0, l == 2 ? 4 : 0);
            int fifth = run.make("node", 2, fourth, l);
            int ninth = run.make("node", 2, fourth, fifth);
            dueHolds(true, run, 2, ninth, fourth, fifth);
            dueHolds(true, run, 2, ninth, fifth, fourth);
            dueHolds(true, run, 2, zero, zero, ninth);
            for (int tree = 0; tree < run.trees(); tree++) {
                dueHolds(false, run, 2, tree, fifth, fifth);
            }
        }
    }

    /** The product has 40 terms, and with one more in a factor 41: no tree has so many. */
    private static void kind2Terms() {
        Run run = Run.withLetters("KIND 2: the product (of 40 and more TERMS)");
        int twenty = run.make("node", 2, run.powersUpTo(1, 3), run.powersUpTo(2, 4));
        int two = run.powersUpTo(0, 1);
        int forty = run.make("node", 2, twenty, two);
        dueHolds(true, run, 2, forty, twenty, two);
        dueHolds(true, run, 2, forty, two, twenty);
        dueHolds(false, run, 2, forty, run.make("node", 0, twenty, 0), two);
        int part = run.make("node", 1, forty, run.monomial(1, 1, 3, 4));
        dueHolds(false, run, 2, part, twenty, two);
        int one = run.make("number", 1);
        dueHolds(true, run, 2, forty, forty, one);
        dueHolds(true, run, 2, forty, one, forty);
        dueHolds(false, run, 2, forty, part, one);
    }

    private static void kind2AllTerms() {
        Run run = Run.withLetters("KIND 2: the product (of all 220 TERMS of a degree up to 9)");
        int four = run.allUpToFour();
        int five = run.elevenUpToFive();
        dueHolds(false, run, 2, four, four, five);
        dueHolds(false, run, 2, five, five, four);
        dueHolds(true, run, 2, run.make("node", 3, 0, -1), 0, 0);
        dueHolds(true, run, 0, four, four, -1);
    }

    /** On the way to the product there are 157 terms, of which 35 stay. */
    private static void productsOfManySteps() {
        Run run = Run.withLetters("KIND 2, KIND 6: the product (of many steps)");
        int[] halves = run.halvesOfEight();
        int product = run.productOfEight();
        int other = run.make("node", 0, product, 0);
        dueHolds(true, run, 2, product, halves[0], halves[1]);
        dueHolds(true, run, 2, product, halves[1], halves[0]);
        dueHolds(false, run, 2, other, halves[0], halves[1]);
        dueHolds(false, run, 2, product, halves[0], halves[0]);
        for (int half = 0; half < 2; half++) {
            int row = run.make("load", 6, product, halves[half], -1);
            run.done("cofactor", row, halves[half]);
            dueRowHolds(false, run, row);
            run.done("cofactor", row, halves[1 - half]);
            dueRowHolds(true, run, row);
        }
    }

    /** Each kind with a tree that has as many terms as one can have. */
    private static void fortyTermsOfEachKind() {
        Run run = Run.withLetters("A row HOLDS if no tree .. is TOO GREAT (40 TERMS are not)");
        int forty = run.forty();
        int nextToForty = run.make("node", 0, run.make("node", 1, forty, 2), run.make("number", -1));
        int lessOne = run.make("node", 1, forty, run.make("number", 1));
        run.due(38, "terms", nextToForty);
        run.due(39, "terms", lessOne);
        dueHolds(true, run, 0, forty, forty, -1);
        dueHolds(false, run, 0, forty, lessOne, -1);
        // By z all but the 20 terms with z go out.
        int ofTwo = run.make("node", 2, run.powersUpTo(0, 4), run.powersUpTo(1, 3));
        dueHolds(true, run, 1, forty, ofTwo, 2);
        dueHolds(false, run, 1, forty, lessOne, 2);
        dueHolds(true, run, 3, forty, -1, 1);
        dueHolds(false, run, 3, forty, 1, 1);
        int same = run.make("load", 4, forty, nextToForty, -1);
        dueRowHolds(false, run, same);
        setSample(run, same, 0, 0, -2);
        dueRowHolds(false, run, same);
        setSample(run, same, 0, 0, -1);
        dueRowHolds(true, run, same);
        dueHolds(true, run, 5, forty, -1, -1);
        int divided = run.make("load", 6, forty, ofTwo, -1);
        run.done("cofactor", divided, run.powersUpTo(2, 1));
        dueRowHolds(true, run, divided);
    }

    private static void kind3() {
        Run run = Run.withLetters("KIND 3: with the number v in place of the letter l a's is 0");
        for (int l = 0; l < 3; l++) {
            for (int v : new int[] {-10, -1, 0, 1, 10}) {
                int root = run.make("node", 1, l, run.make("number", v));
                dueHolds(true, run, 3, root, v, l);
                dueHolds(false, run, 3, root, v == 10 ? 9 : v + 1, l);
                dueHolds(false, run, 3, root, v == -10 ? -9 : v - 1, l);
                dueHolds(false, run, 3, root, v, (l + 1) % 3);
            }
        }
    }

    private static void kind3OfAPart() {
        Run run = Run.withLetters("KIND 3: .. a's is 0 (not a part of it)");
        int zero = run.make("number", 0);
        dueHolds(true, run, 3, zero, 0, 0);
        dueHolds(true, run, 3, zero, 10, 2);
        dueHolds(false, run, 3, run.make("number", 1), 0, 0);
        dueHolds(false, run, 3, 1, 0, 0);
        dueHolds(true, run, 3, 1, 0, 1);
        int difference = run.make("node", 1, 0, 1);
        dueHolds(false, run, 3, difference, 1, 0);
        int product = run.make("node", 2, difference, 2);
        dueHolds(true, run, 3, product, 0, 2);
        dueHolds(false, run, 3, product, 1, 2);
    }

    /** 100000 x^9 - 1000000 x^8 is 0 at 10; 32 * 8^9 is 2^32, 0 in 32 bits. */
    private static void kind3AtTheBound() {
        for (int l = 0; l < 3; l++) {
            Run run = Run.withLetters("KIND 3: with the number v (at the bound of numbers)");
            int eighth = run.monomial(1, l == 0 ? 8 : 0, l == 1 ? 8 : 0, l == 2 ? 8 : 0);
            int ninth = run.make("node", 2, eighth, l);
            int most = run.make("node", 2, eighth, run.make("number", 1000000));
            int tenth = run.make("node", 2, ninth, run.make("number", 100000));
            dueHolds(true, run, 3, run.make("node", 1, tenth, most), 10, l);
            dueHolds(false, run, 3, run.make("node", 1, tenth, most), -10, l);
            dueHolds(true, run, 3, run.make("node", 0, tenth, most), -10, l);
            dueHolds(false, run, 3, run.make("node", 0, tenth, most), 10, l);
            int wrapped = run.make("node", 2, ninth, run.make("number", 32));
            dueHolds(false, run, 3, wrapped, 8, l);
            dueHolds(true, run, 3, wrapped, 0, l);
        }
    }

    private static void kind4() {
        Run run = Run.withLetters("KIND 4: at the SAMPLE a's and b's have the same value");
        int square = run.make("node", 3, 0, -1);
        int hundred = run.make("number", 100);
        int row = run.make("load", 4, square, hundred, -1);
        for (int v = -10; v <= 10; v++) {
            run.done("sample", row, 0, v);
            dueRowHolds(v == -10 || v == 10, run, row);
        }
        int zero = run.make("number", 0);
        int atFirst = run.make("load", 4, 0, 1, -1);
        dueRowHolds(true, run, atFirst);
        run.done("sample", atFirst, 2, 5);
        dueRowHolds(true, run, atFirst);
        run.done("sample", atFirst, 1, 1);
        dueRowHolds(false, run, atFirst);
        run.done("sample", atFirst, 0, 1);
        dueRowHolds(true, run, atFirst);
        dueHolds(true, run, 4, zero, zero, -1);
        dueHolds(false, run, 4, zero, hundred, -1);
    }

    /** 10 terms of degree 9 in two letters, each with the number 1. */
    private static int nineHomogeneous(Run run, int a, int b) {
        int a2 = run.make("node", 3, a, -1);
        int b2 = run.make("node", 3, b, -1);
        int a4 = run.make("node", 3, a2, -1);
        int b4 = run.make("node", 3, b2, -1);
        int fourths = run.make("node", 0, run.make("node", 3, a4, -1), run.make("node", 3, b4, -1));
        int mixed = run.make("node", 2, run.make("node", 2, a2, b2), run.make("node", 0, a4, b4));
        int middle = run.make("node", 2, a4, b4);
        return run.make("node", 2, run.make("node", 0, a, b), run.sum(fourths, mixed, middle));
    }

    /** At 10 the values are 10^16 and 1 more, which neither 32 bits nor a double tell apart. */
    private static void kind4AtTheBound() {
        for (int sample = -10; sample <= 10; sample += 20) {
            Run run = Run.withLetters("KIND 4: the same value (a great one)");
            int most = run.make("number", 1000000);
            int sum = run.make("node", 2, most, nineHomogeneous(run, 0, 1));
            int other = run.make("node", 2, most, nineHomogeneous(run, 1, 2));
            int more = run.make("node", 0, sum, run.make("number", 1));
            run.due(10, "terms", sum);
            run.due(11, "terms", more);
            int same = run.make("load", 4, sum, other, -1);
            setSample(run, same, sample, sample, sample);
            dueRowHolds(true, run, same);
            int differs = run.make("load", 4, more, other, -1);
            setSample(run, differs, sample, sample, sample);
            dueRowHolds(false, run, differs);
            int wrapped = run.make("node", 2, run.monomial(1, 0, 0, 9), run.make("number", 32));
            int row = run.make("load", 4, wrapped, run.make("number", 0), -1);
            run.done("sample", row, 2, 8);
            dueRowHolds(false, run, row);
        }
    }

    private static void kind5() {
        Run run = Run.withLetters("KIND 5: at the SAMPLE a's has a value above 0");
        dueHolds(false, run, 5, run.make("number", 0), -1, -1);
        dueHolds(true, run, 5, run.make("number", 1), -1, -1);
        dueHolds(false, run, 5, run.make("number", -1), -1, -1);
        dueHolds(true, run, 5, run.make("number", 1000000), -1, -1);
        dueHolds(false, run, 5, run.make("number", -1000000), -1, -1);
        for (int letter = 0; letter < 3; letter++) {
            int row = run.make("load", 5, letter, -1, -1);
            dueRowHolds(false, run, row);
            for (int v = -10; v <= 10; v++) {
                run.done("sample", row, letter, v);
                dueRowHolds(v > 0, run, row);
            }
        }
    }

    /** 16 * 8^9 is 2^31, below 0 in 32 bits. */
    private static void kind5AtTheBound() {
        Run run = Run.withLetters("KIND 5: a value above 0 (a great one)");
        int wrapped = run.monomial(16, 9, 0, 0);
        int row = run.make("load", 5, wrapped, -1, -1);
        run.done("sample", row, 0, 8);
        dueRowHolds(true, run, row);
        run.done("sample", row, 0, -8);
        dueRowHolds(false, run, row);
        int most = run.make("number", 1000000);
        int sum = run.make("node", 2, most, nineHomogeneous(run, 0, 1));
        int other = run.make("node", 2, most, nineHomogeneous(run, 1, 2));
        int difference = run.make("node", 1, sum, other);
        for (int v = -1; v <= 1; v++) {
            int tree = run.make("node", 0, difference, run.make("number", v));
            int of = run.make("load", 5, tree, -1, -1);
            setSample(run, of, 10, 10, 10);
            dueRowHolds(v > 0, run, of);
        }
        int all = run.make("load", 5, sum, -1, -1);
        setSample(run, all, 10, 10, 0);
        dueRowHolds(true, run, all);
        setSample(run, all, -10, -10, 0);
        dueRowHolds(false, run, all);
    }

    private static void kind6() {
        Run run = Run.withLetters("KIND 6: it has a COFACTOR, b's isn't 0, and the product of both is a's");
        int zero = run.make("number", 0);
        int product = run.make("node", 2, 0, 1);
        int row = run.make("load", 6, product, 0, -1);
        dueRowHolds(false, run, row);
        run.done("cofactor", row, 1);
        dueRowHolds(true, run, row);
        run.done("cofactor", row, 2);
        dueRowHolds(false, run, row);
        int ofZero = run.make("load", 6, zero, 0, -1);
        dueRowHolds(false, run, ofZero);
        run.done("cofactor", ofZero, zero);
        dueRowHolds(true, run, ofZero);
        run.done("cofactor", ofZero, 0);
        dueRowHolds(false, run, ofZero);
        for (int a : new int[] {zero, 0}) {
            int byZero = run.make("load", 6, a, zero, -1);
            dueRowHolds(false, run, byZero);
            for (int tree = 0; tree < 4; tree++) {
                run.done("cofactor", byZero, tree);
                dueRowHolds(false, run, byZero);
            }
        }
        int vanished = run.make("load", 6, zero, run.make("node", 1, 0, 0), -1);
        run.done("cofactor", vanished, zero);
        dueRowHolds(false, run, vanished);
    }

    private static void kind6AtTheBound() {
        Run run = Run.withLetters("KIND 6: the product of both is a's (at the bounds)");
        int zero = run.make("number", 0);
        int thousand = run.make("number", 1000);
        int most = run.make("number", 1000000);
        int wrapped = run.make("number", 65536);
        int fourth = run.monomial(1, 0, 0, 4);
        int fifth = run.make("node", 2, 2, fourth);
        int ninth = run.make("node", 2, fourth, fifth);
        int[][] rows = {
            {most, thousand, thousand, 1},
            {most, thousand, run.make("number", 1001), 0},
            {most, thousand, run.make("number", -1000), 0},
            {zero, wrapped, wrapped, 0},
            {ninth, fourth, fifth, 1},
            {ninth, fifth, fifth, 0},
            // z^10 is neither y nor 0.
            {1, fifth, fifth, 0},
            {zero, fifth, fifth, 0},
        };
        for (int[] row : rows) {
            int made = run.make("load", 6, row[0], row[1], -1);
            run.done("cofactor", made, row[2]);
            dueRowHolds(row[3] == 1, run, made);
        }
    }

    // What is asked of rows.

    /** Rows 0 to 5, of which 2 and 4 don't hold. */
    private static Run withTwoBadRows(String sentence) {
        Run run = Run.withLetters(sentence);
        for (int row = 0; row < 6; row++) {
            run.make("load", 0, 0, row == 2 || row == 4 ? 1 : 0, -1);
        }
        return run;
    }

    private static void checkTellsTheFirst() {
        Run run = withTwoBadRows("Checks rows from one on, up to another one (that not): 0, or 1 plus the first one");
        for (int from = 0; from <= 6; from++) {
            for (int to = -1; to <= 6; to++) {
                int want = from <= 2 && to > 2 ? 3 : from <= 4 && to > 4 ? 5 : 0;
                run.due(want, "check", from, to);
            }
        }
        run.due(0, "check", MAX, 6);
        run.due(0, "check", 7, 6);
        run.due(0, "check", MAX, MIN);
        run.due(0, "check", 0, MIN);
    }

    private static void checkRefused() {
        Run run = withTwoBadRows("ArrayIndexOutOfBoundsException: from is below 0, or to above the number of rows");
        run.index("check", -1, 6);
        run.index("check", -1, -1);
        run.index("check", -1, 0);
        run.index("check", MIN, 6);
        run.index("check", 0, 7);
        run.index("check", 6, 7);
        run.index("check", 7, 7);
        run.index("check", MAX, MAX);
        run.index("check", -1, 7);
        run.due(3, "check", 0, 6);
        run.due(0, "check", 6, 6);
    }

    private static void checkFullAndEmpty() {
        Run run = Run.withLetters("Checks rows (none, and all 60)");
        run.due(0, "check", 0, 0);
        run.index("check", 0, 1);
        run.index("check", -1, 0);
        run.fillRows(59, 1);
        run.due(0, "check", 0, 59);
        run.index("check", 0, 60);
        run.make("load", 0, 0, 1, -1);
        run.due(60, "check", 0, 60);
        run.due(60, "check", 59, 60);
        run.due(0, "check", 0, 59);
        run.due(0, "check", 60, 60);
        run.index("check", 0, 61);
    }

    private static void rowAt() {
        Run run = Run.withLetters("Of a row what 0 .. 7; ArrayIndexOutOfBoundsException: also for another what");
        run.make("load", 0, 1, 2, -1);
        run.make("load", 6, 2, 1, -1);
        run.done("cofactor", 1, 0);
        setSample(run, 1, -10, 10, 7);
        int[][] want = {{0, 1, 2, -1, -1, 0, 0, 0}, {6, 2, 1, -1, 0, -10, 10, 7}};
        for (int row = 0; row < 2; row++) {
            for (int what = 0; what < 8; what++) {
                run.due(want[row][what], "rowAt", row, what);
            }
            run.index("rowAt", row, -1);
            run.index("rowAt", row, 8);
            run.index("rowAt", row, MIN);
            run.index("rowAt", row, MAX);
        }
        run.index("rowAt", -1, 0);
        run.index("rowAt", 2, 0);
        run.index("rowAt", MIN, 7);
        run.index("rowAt", MAX, 7);
        run.index("rowAt", -1, 8);
    }

    private static void counted() {
        Run run = Run.withLetters("How many TERMS the POLYNOMIALS of the trees among a row's fields have together");
        int zero = run.make("number", 0);
        int forty = run.forty();
        int opposite = run.make("node", 4, forty, -1);
        int[][] rows = {
            {0, zero, zero, -1, 0},
            {0, forty, opposite, -1, 80},
            {1, forty, 0, 2, 41},
            {2, forty, opposite, forty, 120},
            {2, zero, zero, 1, 1},
            {3, forty, 2, 1, 40},
            {4, zero, opposite, -1, 40},
            {5, forty, -1, -1, 40},
            {5, zero, -1, -1, 0},
            {6, 0, forty, -1, 41},
        };
        for (int[] row : rows) {
            int made = run.make("load", row[0], row[1], row[2], row[3]);
            run.due(row[4], "counted", made);
        }
        run.done("cofactor", 9, forty);
        run.due(41, "counted", 9);
        run.index("counted", -1);
        run.index("counted", rows.length);
        run.index("counted", MIN);
        run.index("counted", MAX);
    }

    private static void countedOfTooGreat() {
        Run run = Run.withLetters("those that are TOO GREAT count nothing");
        int great = run.great();
        int two = run.make("node", 0, 0, 1);
        int[][] rows = {
            {0, great, two, -1, 2}, {0, two, great, -1, 2}, {0, great, great, -1, 0},
            {1, great, two, 0, 2}, {1, two, great, 0, 2},
            {2, great, two, 0, 3}, {2, two, great, 0, 3}, {2, two, 0, great, 3}, {2, great, great, great, 0},
            {3, great, 2, 1, 0},
            {4, great, two, -1, 2}, {4, two, great, -1, 2},
            {5, great, -1, -1, 0},
            {6, great, two, -1, 2}, {6, two, great, -1, 2},
        };
        for (int[] row : rows) {
            int made = run.make("load", row[0], row[1], row[2], row[3]);
            run.due(row[4], "counted", made);
        }
    }

    public static void main(String[] args) {
        numbersFromZeroOn();
        atMost60();
        kinds();
        treesOfARow();
        treesInAnEmptyObject();
        treeOfAKindThatThereIsnt();
        lettersOfARow();
        numberOfARow();
        fieldsThatThereArent();
        sampleAtFirst();
        sampleNumbers();
        sampleLetters();
        cofactorAtFirst();
        cofactorOfOtherKinds();
        emptyObject();
        noFieldIsTooGreat();
        noCofactorIsTooGreat();
        fieldsThatAreNoTrees();
        kind0();
        kind1();
        kind1AtTheBound();
        kind2();
        kind2Degree();
        kind2Terms();
        kind2AllTerms();
        productsOfManySteps();
        fortyTermsOfEachKind();
        kind3();
        kind3OfAPart();
        kind3AtTheBound();
        kind4();
        kind4AtTheBound();
        kind5();
        kind5AtTheBound();
        kind6();
        kind6AtTheBound();
        checkTellsTheFirst();
        checkRefused();
        checkFullAndEmpty();
        rowAt();
        counted();
        countedOfTooGreat();
        Run.end();
    }
}
