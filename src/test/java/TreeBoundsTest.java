/**
 * What the document says of trees and polynomials at their bounds (its "Terms", promises 2 to 4 and
 * 11 to 14), one method for each sentence, or part of one, that names a bound.
 */
public final class TreeBoundsTest {
    private static final int MIN = Integer.MIN_VALUE;
    private static final int MAX = Integer.MAX_VALUE;

    // Trees: which there are, and what they are made of.

    private static void numbersFromZeroOn() {
        Run run = new Run("TREES have numbers from 0 on in the order in which they were made");
        run.index("terms", 0);
        run.due(0, "number", 7);
        run.due(1, "leaf", 2);
        run.due(2, "node", 0, 0, 1);
        run.due(3, "number", 7);
        run.due(7, "term", 0, 0, 0, 0);
        run.due(1, "term", 1, 0, 0, 1);
        run.due(2, "terms", 2);
        run.due(7, "term", 3, 0, 0, 0);
        run.index("terms", -1);
        run.index("terms", 4);
    }

    private static void atMost120() {
        String[] names = {"leaf", "number", "node"};
        int[][] args = {{2}, {1000000}, {2, 0, 118}};
        for (int last = 0; last < names.length; last++) {
            Run run = new Run("TREES .. at most 120; IllegalStateException: 120 trees are there");
            for (int i = 0; i < 119; i++) {
                run.due(i, "number", i + 1);
            }
            run.due(119, names[last], args[last]);
            run.due(120, "count", 0);
            run.state("leaf", 0);
            run.state("number", 0);
            run.state("node", 0, 0, 119);
            run.state("node", 5, 119, -1);
            run.due(1, "term", 0, 0, 0, 0);
            run.due(119, "term", 118, 0, 0, 0);
            run.due(1, "terms", 119);
            run.index("terms", 120);
        }
    }

    private static void letters() {
        Run run = new Run("a LETTER (0 .. 2); IllegalArgumentException: there is none such");
        run.argument("leaf", -1);
        run.argument("leaf", 3);
        run.due(0, "leaf", 0);
        run.due(1, "leaf", 2);
        run.due(2, "leaf", 1);
        run.due(1, "term", 0, 1, 0, 0);
        run.due(1, "term", 1, 0, 0, 1);
        run.due(1, "term", 2, 0, 1, 0);
        for (int t = 0; t < 3; t++) {
            run.due(1, "terms", t);
        }
        run.argument("leaf", -1);
        run.argument("leaf", 3);
        run.argument("leaf", MIN);
        run.argument("leaf", MAX);
        run.due(3, "count", 0);
    }

    private static void numbers() {
        Run run = new Run("a NUMBER (whole, -1000000 .. 1000000); IllegalArgumentException: it can't be one");
        run.argument("number", 1000001);
        run.argument("number", -1000001);
        run.due(0, "number", 1000000);
        run.due(1, "number", -1000000);
        run.due(2, "number", 0);
        run.due(3, "number", -1);
        run.due(1000000, "term", 0, 0, 0, 0);
        run.due(-1000000, "term", 1, 0, 0, 0);
        run.due(0, "term", 2, 0, 0, 0);
        run.due(-1, "term", 3, 0, 0, 0);
        run.argument("number", 1000001);
        run.argument("number", -1000001);
        run.argument("number", MIN);
        run.argument("number", MAX);
        run.due(4, "count", 0);
    }

    private static void treesMadeAhead() {
        Run run = new Run("a NODE with a HEAD and two trees made ahead of it, or one");
        for (int head = 0; head <= 5; head++) {
            run.index("node", head, 0, head < 3 ? 0 : -1);
        }
        run.make("leaf", 0);
        for (int head = 0; head <= 2; head++) {
            int next = run.trees();
            run.index("node", head, next, 0);
            run.index("node", head, 0, next);
            run.index("node", head, next, next);
            run.index("node", head, -1, 0);
            run.index("node", head, 0, -1);
            run.index("node", head, MIN, 0);
            run.index("node", head, 0, MAX);
            run.due(next, "node", head, 0, next - 1);
            run.due(next + 1, "node", head, next, 0);
        }
        for (int head = 3; head <= 5; head++) {
            int next = run.trees();
            run.index("node", head, next, -1);
            run.index("node", head, -1, -1);
            run.index("node", head, MAX, -1);
            run.due(next, "node", head, next - 1, -1);
            run.due(next + 1, "node", head, 0, -1);
        }
    }

    private static void heads() {
        Run run = new Run("HEADS: 0 .. 5; IllegalArgumentException: there is no such HEAD");
        run.make("number", 5);
        run.make("number", -3);
        int[] want = {2, 8, -15, 25, -5, 125};
        for (int head = 0; head <= 5; head++) {
            run.due(2 + head, "node", head, 0, head < 3 ? 1 : -1);
            run.due(want[head], "term", 2 + head, 0, 0, 0);
        }
        run.argument("node", -1, 0, 1);
        run.argument("node", 6, 0, -1);
        run.argument("node", 6, 0, 1);
        run.argument("node", 7, 0, -1);
        run.argument("node", MIN, 0, 1);
        run.argument("node", MAX, 0, -1);
        run.due(8, "count", 0);
    }

    private static void headsOfOneTree() {
        Run run = new Run("b may be -1 for HEADS from 3 on; b isn't -1 for one from 3 on");
        run.make("leaf", 0);
        run.make("leaf", 1);
        for (int head = 0; head <= 2; head++) {
            run.index("node", head, 0, -1);
        }
        for (int head = 3; head <= 5; head++) {
            run.argument("node", head, 0, 0);
            run.argument("node", head, 0, 1);
            run.index("node", head, 0, -2);
            run.index("node", head, 0, run.trees());
            run.due(run.trees(), "node", head, 0, -1);
        }
        run.index("node", -1, 0, -1);
        run.index("node", 6, 0, -2);
        run.index("node", 6, 0, run.trees());
    }

    private static void deep() {
        Run run = new Run("DEEP is 0 of a LETTER or NUMBER, of a NODE 1 more than its deepest tree");
        run.make("leaf", 0);
        run.make("number", 1000000);
        run.due(0, "deep", 0);
        run.due(0, "deep", 1);
        run.make("node", 0, 0, 1);
        run.due(1, "deep", 2);
        run.make("node", 4, 2, -1);
        run.due(2, "deep", 3);
        run.make("node", 1, 3, 0);
        run.due(3, "deep", 4);
        run.make("node", 2, 1, 4);
        run.due(4, "deep", 5);
        run.make("node", 0, 2, 5);
        run.due(5, "deep", 6);
        run.make("node", 0, 2, 2);
        run.due(2, "deep", 7);
        run.index("deep", -1);
        run.index("deep", 8);
        run.index("deep", MIN);
        run.index("deep", MAX);
    }

    private static void atMost20Deep() {
        Run run = new Run("IllegalArgumentException: .. it would be above 20 DEEP");
        run.make("leaf", 0);
        for (int i = 0; i < 20; i++) {
            run.due(i + 1, "node", 4, i, -1);
            run.due(i + 1, "deep", i + 1);
        }
        for (int head = 0; head <= 2; head++) {
            run.argument("node", head, 20, 0);
            run.argument("node", head, 0, 20);
            run.argument("node", head, 20, 20);
            int made = run.make("node", head, 19, 0);
            run.due(20, "deep", made);
            run.due(20, "deep", run.make("node", head, 0, 19));
            run.argument("node", 4, made, -1);
        }
        for (int head = 3; head <= 5; head++) {
            run.argument("node", head, 20, -1);
            run.due(20, "deep", run.make("node", head, 19, -1));
        }
    }

    /** A tree that is too great is still one, with a depth of its own. */
    private static void deepOfTooGreat() {
        Run run = new Run("DEEP .. of a NODE 1 more than its deepest tree");
        int tree = run.great();
        for (int i = 1; i < 20; i++) {
            run.due(i, "deep", tree);
            tree = run.make("node", 3, tree, -1);
        }
        run.due(20, "deep", tree);
        run.argument("node", 3, tree, -1);
        run.due(-1, "terms", tree);
    }

    // Terms: which a polynomial has.

    private static void termsThatVanish() {
        Run run = Run.withLetters("A TERM is a number that isn't 0 times a power of each letter");
        int zero = run.make("number", 0);
        int one = run.make("number", 1);
        int opposite = run.make("node", 4, 0, -1);
        int[] without = {
            zero,
            run.make("node", 1, 0, 0),
            run.make("node", 0, 0, opposite),
            run.make("node", 2, zero, 0),
            run.make("node", 2, 0, zero),
            run.make("node", 3, zero, -1),
            run.make("node", 4, zero, -1),
            run.make("node", 5, zero, -1),
            run.make("node", 0, zero, zero),
        };
        for (int tree : without) {
            run.due(0, "terms", tree);
            run.due(0, "term", tree, 0, 0, 0);
            run.due(0, "term", tree, 1, 0, 0);
        }
        int more = run.make("node", 0, 0, one);
        int less = run.make("node", 1, 0, one);
        int product = run.make("node", 2, more, less);
        run.due(2, "terms", product);
        run.due(1, "term", product, 2, 0, 0);
        run.due(0, "term", product, 1, 0, 0);
        run.due(-1, "term", product, 0, 0, 0);
        run.due(1, "terms", run.make("node", 1, more, 0));
        run.due(1, "terms", run.make("node", 0, more, opposite));
    }

    // Too great: at the bound and one above it.

    private static void tooGreatIfATreeOfItIs() {
        for (int cause = 0; cause < 3; cause++) {
            Run run = Run.withLetters("A tree is TOO GREAT if a tree of it is");
            int zero = run.make("number", 0);
            int great = cause == 0 ? run.great() : cause == 1 ? run.monomial(1, 4, 3, 3) : ofTerms41(run);
            run.due(-1, "terms", great);
            for (int head = 0; head <= 2; head++) {
                run.due(-1, "terms", run.make("node", head, great, 0));
                run.due(-1, "terms", run.make("node", head, 0, great));
                run.due(-1, "terms", run.make("node", head, zero, great));
                run.due(-1, "terms", run.make("node", head, great, zero));
                run.due(-1, "terms", run.make("node", head, great, great));
            }
            for (int head = 3; head <= 5; head++) {
                int above = run.make("node", head, great, -1);
                run.due(-1, "terms", above);
                run.due(-1, "terms", run.make("node", 4, above, -1));
            }
            run.due(1, "terms", 0);
            run.due(0, "terms", zero);
        }
    }

    private static int ofTerms41(Run run) {
        return run.make("node", 0, run.forty(), run.monomial(1, 0, 0, 2));
    }

    private static void fortyTermsInASum() {
        Run run = Run.withLetters("more than 40 TERMS (of a sum, of a difference)");
        int forty = run.forty();
        int there = run.monomial(1, 4, 3, 1);
        int another = run.monomial(1, 0, 0, 2);
        run.due(40, "terms", forty);
        int less = run.make("node", 1, forty, there);
        run.due(39, "terms", less);
        run.due(40, "terms", run.make("node", 0, less, another));
        run.due(40, "terms", run.make("node", 0, another, less));
        run.due(40, "terms", run.make("node", 1, less, another));
        run.due(40, "terms", run.make("node", 1, another, less));
        run.due(40, "terms", run.make("node", 0, forty, there));
        run.due(40, "terms", run.make("node", 0, forty, forty));
        run.due(0, "terms", run.make("node", 1, forty, forty));
        run.due(40, "terms", run.make("node", 4, forty, -1));
        int[] above = {
            run.make("node", 0, forty, another),
            run.make("node", 0, another, forty),
            run.make("node", 1, forty, another),
            run.make("node", 1, another, forty),
        };
        for (int tree : above) {
            run.due(-1, "terms", tree);
            run.state("term", tree, 0, 0, 0);
        }
        for (int i = 0; i <= 4; i++) {
            run.due(1, "term", forty, i, 3, 1);
        }
        run.due(0, "term", less, 4, 3, 1);
    }

    /** S has 20 terms without the letter 0: S (x + 1) has 40, (S + x) (x + 1) has 41. */
    private static void fortyTermsInAProduct() {
        Run run = Run.withLetters("more than 40 TERMS (of a product)");
        int twenty = run.make("node", 2, run.powersUpTo(1, 3), run.powersUpTo(2, 4));
        int two = run.powersUpTo(0, 1);
        run.due(20, "terms", twenty);
        run.due(40, "terms", run.make("node", 2, twenty, two));
        run.due(40, "terms", run.make("node", 2, two, twenty));
        int more = run.make("node", 0, twenty, 0);
        run.due(21, "terms", more);
        run.due(-1, "terms", run.make("node", 2, more, two));
        run.due(-1, "terms", run.make("node", 2, two, more));
    }

    private static void fortyTermsInASquare() {
        int[][] nine = {{1, 0, 0, 0}, {1, 1, 0, 0}, {1, 2, 0, 0}, {1, 3, 0, 0}, {1, 4, 0, 0},
            {1, 0, 1, 0}, {1, 0, 2, 0}, {1, 0, 3, 0}, {1, 0, 0, 1}};
        Run run = Run.withLetters("more than 40 TERMS (of a square)");
        int all = run.polynomial(nine);
        int inside = run.make("node", 0, all, run.monomial(1, 2, 1, 0));
        int outside = run.make("node", 0, all, run.monomial(1, 1, 2, 0));
        run.due(40, "terms", run.make("node", 3, inside, -1));
        run.due(40, "terms", run.make("node", 2, inside, inside));
        run.due(-1, "terms", run.make("node", 3, outside, -1));
        run.due(-1, "terms", run.make("node", 2, outside, outside));
    }

    private static void fortyTermsInAThirdPower() {
        Run run = Run.withLetters("more than 40 TERMS (of a third power)");
        int inside = run.polynomial(new int[][] {{1, 0, 0, 0}, {1, 1, 0, 0}, {1, 2, 0, 0},
            {1, 3, 0, 0}, {1, 0, 1, 0}, {1, 0, 0, 1}});
        run.due(18, "terms", run.make("node", 3, inside, -1));
        run.due(40, "terms", run.make("node", 5, inside, -1));
        int outside = run.polynomial(new int[][] {{1, 0, 1, 2}, {1, 0, 3, 0}, {1, 1, 0, 2},
            {1, 1, 1, 1}, {1, 2, 1, 0}, {1, 3, 0, 0}});
        run.due(19, "terms", run.make("node", 3, outside, -1));
        run.due(-1, "terms", run.make("node", 5, outside, -1));
    }

    /** S = 1 + .. + x^4, T = y + .. + y^4 + z + .. + z^4: in (S + T) (S - T) 40 products S T go out. */
    private static void fortyTermsOfTheWhole() {
        Run run = Run.withLetters("its POLYNOMIAL has more than 40 TERMS (not the steps to it)");
        int s = run.powersUpTo(0, 4);
        int one = run.make("number", 1);
        int t = run.make("node", 0, run.make("node", 1, run.powersUpTo(1, 4), one),
                run.make("node", 1, run.powersUpTo(2, 4), one));
        int product = run.make("node", 2, run.make("node", 0, s, t), run.make("node", 1, s, t));
        run.due(39, "terms", product);
        run.due(5, "term", product, 4, 0, 0);
        run.due(-3, "term", product, 0, 4, 0);
        run.due(-2, "term", product, 0, 1, 1);
        run.due(0, "term", product, 1, 1, 0);
        run.due(0, "term", product, 0, 1, 0);
    }

    /** Two trees of 26 terms, 157 sorts of products of those, and all but 35 go out. */
    private static void fortyTermsBehindManyMore() {
        Run run = Run.withLetters("its POLYNOMIAL has more than 40 TERMS (not the many steps to it)");
        int[] halves = run.halvesOfEight();
        run.due(26, "terms", halves[0]);
        run.due(26, "terms", halves[1]);
        int other = run.productOfEight();
        run.due(35, "terms", other);
        run.due(-40, "term", other, 2, 2, 2);
        int[] products = {
            run.make("node", 2, halves[0], halves[1]),
            run.make("node", 2, halves[1], halves[0]),
            run.make("node", 2, run.make("node", 2, 2, halves[0]), halves[1]),
        };
        run.due(0, "terms", run.make("node", 1, products[0], other));
        run.due(0, "terms", run.make("node", 1, products[1], other));
        run.due(35, "terms", products[2]);
        run.due(1, "term", products[2], 0, 0, 9);
        run.due(4, "term", products[2], 2, 2, 1);
        run.due(-40, "term", products[2], 2, 2, 3);
        run.due(6, "term", products[2], 4, 4, 1);
        run.due(0, "term", products[2], 1, 1, 1);
    }

    private static void allTermsThereCanBe() {
        Run run = Run.withLetters("more than 40 TERMS (all 220 of a degree up to 9)");
        int four = run.allUpToFour();
        int five = run.elevenUpToFive();
        run.due(35, "terms", four);
        run.due(24, "term", run.make("node", 2, four, run.make("number", 2)), 2, 1, 1);
        run.due(11, "terms", five);
        run.due(-1, "terms", run.make("node", 2, four, five));
        run.due(-1, "terms", run.make("node", 2, five, four));
        // What is worked out next has nothing of it.
        int sum = run.make("node", 0, 0, 1);
        run.due(2, "terms", sum);
        run.due(3, "terms", run.make("node", 3, sum, -1));
    }

    private static void degreeOfAllPowersTogether() {
        Run run = Run.withLetters("its degree is that of all powers together; one of a degree above 9");
        int xyz = run.monomial(1, 1, 1, 1);
        int nine = run.make("node", 5, xyz, -1);
        run.due(1, "term", nine, 3, 3, 3);
        int eight = run.monomial(1, 3, 3, 2);
        for (int letter = 0; letter < 3; letter++) {
            run.due(-1, "terms", run.make("node", 2, nine, letter));
            run.due(-1, "terms", run.make("node", 2, letter, nine));
            run.due(1, "terms", run.make("node", 2, eight, letter));
            run.due(1, "terms", run.make("node", 2, letter, eight));
        }
        int two = run.make("number", 2);
        int zero = run.make("number", 0);
        run.due(2, "term", run.make("node", 2, nine, two), 3, 3, 3);
        run.due(2, "term", run.make("node", 0, nine, nine), 3, 3, 3);
        run.due(0, "terms", run.make("node", 2, nine, zero));
        run.due(0, "terms", run.make("node", 2, zero, nine));
        int withTwo = run.make("node", 0, nine, two);
        run.due(2, "terms", run.make("node", 2, withTwo, two));
        run.due(-1, "terms", run.make("node", 2, withTwo, run.make("node", 0, 1, two)));
    }

    /** A letter's powers must not run over into another letter's. */
    private static void degreeOfOneLetter() {
        for (int letter = 0; letter < 3; letter++) {
            Run run = Run.withLetters("one of a degree above 9 (of one letter)");
            int[] p = {letter == 0 ? 1 : 0, letter == 1 ? 1 : 0, letter == 2 ? 1 : 0};
            int third = run.make("node", 5, letter, -1);
            int ninth = run.make("node", 5, third, -1);
            run.due(1, "terms", ninth);
            run.due(1, "term", ninth, 9 * p[0], 9 * p[1], 9 * p[2]);
            int tenth = run.make("node", 2, ninth, letter);
            run.due(-1, "terms", tenth);
            run.state("term", tenth, 0, 0, 0);
            int fourth = run.make("node", 2, third, letter);
            int fifth = run.make("node", 2, letter, fourth);
            run.due(1, "term", run.make("node", 3, fourth, -1), 8 * p[0], 8 * p[1], 8 * p[2]);
            run.due(1, "term", run.make("node", 2, fifth, fourth), 9 * p[0], 9 * p[1], 9 * p[2]);
            run.due(-1, "terms", run.make("node", 3, fifth, -1));
            run.due(-1, "terms", run.make("node", 2, fifth, fifth));
            run.due(-1, "terms", run.make("node", 5, fourth, -1));
            run.due(-1, "terms", run.make("node", 3, ninth, -1));
            run.due(-1, "terms", run.make("node", 2, ninth, ninth));
        }
    }

    private static void numbersInASum() {
        for (int sign = -1; sign <= 1; sign += 2) {
            Run run = Run.withLetters("one with a number that isn't -1000000 .. 1000000 (of a sum)");
            int most = run.monomial(sign * 1000000, 0, 1, 0);
            int nearly = run.monomial(sign * 999999, 0, 1, 0);
            int one = run.monomial(sign, 0, 1, 0);
            int opposite = run.make("node", 4, one, -1);
            run.due(sign * 1000000, "term", most, 0, 1, 0);
            run.due(-sign * 1000000, "term", run.make("node", 4, most, -1), 0, 1, 0);
            run.due(sign * 1000000, "term", run.make("node", 0, nearly, one), 0, 1, 0);
            run.due(sign * 1000000, "term", run.make("node", 0, one, nearly), 0, 1, 0);
            run.due(sign * 1000000, "term", run.make("node", 1, nearly, opposite), 0, 1, 0);
            run.due(-sign * 1000000, "term", run.make("node", 1, opposite, nearly), 0, 1, 0);
            run.due(sign * 999999, "term", run.make("node", 1, most, one), 0, 1, 0);
            run.due(2, "terms", run.make("node", 0, most, 0));
            int[] above = {
                run.make("node", 0, most, one),
                run.make("node", 0, one, most),
                run.make("node", 1, most, opposite),
                run.make("node", 1, opposite, most),
                run.make("node", 0, most, most),
            };
            for (int tree : above) {
                run.due(-1, "terms", tree);
                run.state("term", tree, 0, 1, 0);
            }
        }
    }

    private static void numbersInAProduct() {
        for (int sign = -1; sign <= 1; sign += 2) {
            Run run = new Run("one with a number that isn't -1000000 .. 1000000 (of a product)");
            int thousand = run.make("number", sign * 1000);
            int other = run.make("number", 1000);
            int more = run.make("number", 1001);
            int most = run.make("number", sign * 1000000);
            int two = run.make("number", 2);
            int one = run.make("number", -1);
            run.due(sign * 1000000, "term", run.make("node", 2, thousand, other), 0, 0, 0);
            run.due(-1, "terms", run.make("node", 2, thousand, more));
            run.due(-1, "terms", run.make("node", 2, more, thousand));
            run.due(-sign * 1000000, "term", run.make("node", 2, most, one), 0, 0, 0);
            run.due(-1, "terms", run.make("node", 2, most, two));
            run.due(-1, "terms", run.make("node", 2, most, most));
        }
    }

    private static void numbersInASquare() {
        Run run = Run.withLetters("one with a number that isn't -1000000 .. 1000000 (of a square)");
        for (int sign = -1; sign <= 1; sign += 2) {
            run.due(1000000, "term", run.make("node", 3, run.make("number", sign * 1000), -1), 0, 0, 0);
            run.due(-1, "terms", run.make("node", 3, run.make("number", sign * 1001), -1));
            int inside = run.polynomial(new int[][] {{1000, 1, 0, 0}, {sign * 500, 0, 0, 1}});
            int square = run.make("node", 3, inside, -1);
            run.due(sign * 1000000, "term", square, 1, 0, 1);
            run.due(250000, "term", square, 0, 0, 2);
            int outside = run.polynomial(new int[][] {{999, 1, 0, 0}, {sign * 501, 0, 0, 1}});
            run.due(-1, "terms", run.make("node", 3, outside, -1));
        }
    }

    private static void numbersInAThirdPower() {
        Run run = Run.withLetters("one with a number that isn't -1000000 .. 1000000 (of a third power)");
        for (int sign = -1; sign <= 1; sign += 2) {
            int hundred = run.make("number", sign * 100);
            run.due(sign * 1000000, "term", run.make("node", 5, hundred, -1), 0, 0, 0);
            run.due(-1, "terms", run.make("node", 5, run.make("number", sign * 101), -1));
            run.due(-1, "terms", run.make("node", 5, run.make("number", sign * 1000), -1));
            // 3 a b^2 with b = 100: a = 33 gives 990000, a = 34 gives 1020000.
            int inside = run.polynomial(new int[][] {{33, 1, 0, 0}, {sign * 100, 0, 1, 0}});
            int power = run.make("node", 5, inside, -1);
            run.due(990000, "term", power, 1, 2, 0);
            run.due(sign * 1000000, "term", power, 0, 3, 0);
            run.due(sign * 326700, "term", power, 2, 1, 0);
            run.due(35937, "term", power, 3, 0, 0);
            int outside = run.polynomial(new int[][] {{34, 1, 0, 0}, {sign * 100, 0, 1, 0}});
            run.due(-1, "terms", run.make("node", 5, outside, -1));
        }
    }

    /** What comes together in one term counts, not what goes into it. */
    private static void numbersOfTheWhole() {
        Run run = Run.withLetters("its POLYNOMIAL has .. a number that isn't .. (not the steps to it)");
        int n = 1000000;
        int p = run.polynomial(new int[][] {{n, 1, 0, 0}, {n, 0, 1, 0}, {-n, 1, 1, 0}});
        int q = run.polynomial(new int[][] {{1, 1, 0, 0}, {1, 0, 1, 0}, {1, 0, 0, 0}});
        for (int turn = 0; turn < 2; turn++) {
            int product = turn == 0 ? run.make("node", 2, p, q) : run.make("node", 2, q, p);
            run.due(7, "terms", product);
            run.due(n, "term", product, 1, 1, 0);
            run.due(n, "term", product, 2, 0, 0);
            run.due(-n, "term", product, 1, 2, 0);
        }
        int halves = run.polynomial(new int[][] {{500000, 1, 0, 0}, {500000, 0, 0, 0}});
        int more = run.polynomial(new int[][] {{500001, 1, 0, 0}, {500000, 0, 0, 0}});
        int sum = run.powersUpTo(0, 1);
        run.due(n, "term", run.make("node", 2, halves, sum), 1, 0, 0);
        run.due(-1, "terms", run.make("node", 2, more, sum));
        run.due(-1, "terms", run.make("node", 2, sum, more));
    }

    /** In 32 bits 65536 * 65536 would be 0, 92682 * 92682 would be 18532, 2048^3 would be 0. */
    private static void numbersThatWouldWrap() {
        Run run = Run.withLetters("one with a number that isn't -1000000 .. 1000000 (beyond 32 bits)");
        int[] roots = {65536, -65536, 92682, 131072, 1000000, -1000000};
        for (int root : roots) {
            int constant = run.make("number", root);
            int term = run.make("node", 2, constant, 1);
            run.due(-1, "terms", run.make("node", 3, constant, -1));
            run.due(-1, "terms", run.make("node", 2, constant, term));
            run.due(-1, "terms", run.make("node", 5, term, -1));
        }
        run.due(-1, "terms", run.make("node", 5, run.make("number", 2048), -1));
        run.due(-1, "terms", run.make("node", 5, run.make("number", -2048), -1));
    }

    private static void thirdPowerIfTheSquareIs() {
        Run run = Run.withLetters("A third power is, if the square is");
        int number = run.make("number", 1001);
        int degree = run.monomial(1, 2, 1, 2);
        int terms = run.polynomial(new int[][] {{1, 0, 0, 0}, {1, 1, 0, 0}, {1, 0, 1, 0}, {1, 0, 0, 1},
            {1, 2, 0, 0}, {1, 0, 2, 0}, {1, 0, 0, 2}, {1, 3, 0, 0}, {1, 0, 3, 0}, {1, 0, 0, 3}});
        for (int tree : new int[] {number, degree, terms}) {
            run.due(-1, "terms", run.make("node", 3, tree, -1));
            run.due(-1, "terms", run.make("node", 5, tree, -1));
        }
        // A square within the bounds is not enough.
        int thousand = run.make("number", 1000);
        run.due(1, "terms", run.make("node", 3, thousand, -1));
        run.due(-1, "terms", run.make("node", 5, thousand, -1));
    }

    // What is asked of a tree.

    private static void termsOfATree() {
        Run run = Run.withLetters("How many TERMS a tree's POLYNOMIAL has; -1 if it is TOO GREAT");
        run.due(0, "terms", run.make("number", 0));
        run.due(1, "terms", run.make("number", -1000000));
        int forty = run.forty();
        run.due(40, "terms", forty);
        run.due(-1, "terms", run.make("node", 0, forty, run.monomial(1, 0, 0, 9)));
        run.index("terms", -1);
        run.index("terms", run.trees());
        run.index("terms", MIN);
        run.index("terms", MAX);
    }

    private static Run withTermsOfMany(String sentence) {
        Run run = Run.withLetters(sentence);
        run.polynomial(new int[][] {{5, 0, 0, 0}, {-6, 1, 0, 0}, {7, 0, 1, 0}, {-8, 0, 0, 1},
            {9, 9, 0, 0}, {-10, 0, 9, 0}, {11, 0, 0, 9}, {12, 3, 4, 2}});
        return run;
    }

    private static int numberDue(int i, int j, int k) {
        int key = i * 100 + j * 10 + k;
        boolean inside = i >= 0 && i <= 9 && j >= 0 && j <= 9 && k >= 0 && k <= 9;
        int[][] numbers = {{0, 5}, {100, -6}, {10, 7}, {1, -8}, {900, 9}, {90, -10}, {9, 11}, {342, 12}};
        for (int[] number : numbers) {
            if (inside && number[0] == key) {
                return number[1];
            }
        }
        return 0;
    }

    private static void termWithPowers() {
        for (int i = -11; i <= 20; i++) {
            for (int j = -11; j <= 20; j++) {
                Run run = withTermsOfMany("The number in the TERM with these powers; 0 without such a TERM");
                int tree = run.trees() - 1;
                for (int k = -11; k <= 20; k++) {
                    run.due(numberDue(i, j, k), "term", tree, i, j, k);
                }
            }
        }
    }

    /** Powers that would run over, with one digit, four bits or another width for each of them. */
    private static void termWithFarPowers() {
        int[] far = {MIN, MIN + 1, MAX, MAX - 1, 1 << 30, (1 << 30) + 1, -(1 << 30), 1 << 16, (1 << 16) + 1,
            256, 257, 100, 101, 90, 99, 1000, -90, -99, -100};
        Run run = withTermsOfMany("0 without such a TERM");
        int tree = run.trees() - 1;
        for (int power : far) {
            run.due(0, "term", tree, power, 0, 0);
            run.due(0, "term", tree, 0, power, 0);
            run.due(0, "term", tree, 0, 0, power);
            run.due(0, "term", tree, power, power, power);
            run.due(0, "term", tree, 1, -10, power);
        }
    }

    private static void termRefused() {
        Run run = Run.withLetters("IllegalStateException: it is TOO GREAT");
        int great = run.great();
        run.state("term", great, 0, 0, 0);
        run.state("term", great, 9, 9, 9);
        run.state("term", great, -1, 0, MAX);
        run.due(1000000, "term", great - 1, 0, 0, 0);
        run.index("term", -1, 0, 0, 0);
        run.index("term", run.trees(), 0, 0, 0);
        run.index("term", MIN, -1, -1, -1);
        run.index("term", MAX, 10, 0, 0);
    }

    private static void alike() {
        Run run = new Run("Whether two trees are built alike: the same LETTER, the same NUMBER");
        int[] values = {0, 1, 2, -1, 1000000, -1000000, 999999};
        for (int letter = 0; letter < 3; letter++) {
            run.make("leaf", letter);
        }
        for (int v : values) {
            run.make("number", v);
        }
        int many = run.trees();
        for (int letter = 0; letter < 3; letter++) {
            run.make("leaf", letter);
        }
        for (int v : values) {
            run.make("number", v);
        }
        for (int a = 0; a < many; a++) {
            for (int b = 0; b < many; b++) {
                run.due(a == b, "alike", a, many + b);
            }
        }
        run.index("alike", 0, -1);
        run.index("alike", -1, 0);
        run.index("alike", run.trees(), 0);
        run.index("alike", 0, run.trees());
        run.index("alike", run.trees(), run.trees());
        run.index("alike", MIN, MAX);
    }

    private static void alikeNodes() {
        Run run = new Run("the same HEAD of trees built alike");
        int x = run.make("leaf", 0);
        int y = run.make("leaf", 1);
        int again = run.make("leaf", 0);
        int[] nodes = new int[9];
        int[] others = new int[9];
        for (int head = 0; head <= 2; head++) {
            nodes[head] = run.make("node", head, x, y);
            others[head] = run.make("node", head, again, y);
            nodes[6 + head] = run.make("node", head, y, x);
            others[6 + head] = run.make("node", head, y, again);
        }
        for (int head = 3; head <= 5; head++) {
            nodes[head] = run.make("node", head, x, -1);
            others[head] = run.make("node", head, again, -1);
        }
        for (int a = 0; a < 9; a++) {
            for (int b = 0; b < 9; b++) {
                run.due(a == b, "alike", nodes[a], others[b]);
            }
        }
        for (int a = 0; a < 9; a++) {
            run.due(false, "alike", x, nodes[a]);
            run.due(false, "alike", nodes[a], y);
        }
        // The same polynomials, built in another way.
        run.due(false, "alike", nodes[3], run.make("node", 2, x, x));
        run.due(false, "alike", x, run.make("node", 4, run.make("node", 4, x, -1), -1));
        run.due(false, "alike", run.make("number", 0), run.make("node", 1, x, x));
    }

    private static void alikeInOnePlace() {
        Run run = Run.withLetters("the same HEAD of trees built alike (both of them)");
        for (int head = 0; head <= 2; head++) {
            int node = run.make("node", head, 0, 1);
            run.due(false, "alike", node, run.make("node", head, 0, 2));
            run.due(false, "alike", node, run.make("node", head, 2, 1));
            run.due(false, "alike", node, run.make("node", head, 0, 0));
            run.due(true, "alike", node, run.make("node", head, 0, 1));
        }
    }

    /** A node of the tree 0, 1 or 2 is neither the letter nor the number 0, 1 or 2. */
    private static void alikeOfOneSort() {
        Run run = Run.withLetters("the same LETTER, the same NUMBER, the same HEAD (of different sorts)");
        for (int of = 0; of <= 2; of++) {
            int number = run.make("number", of);
            run.due(false, "alike", of, number);
            for (int head = 3; head <= 5; head++) {
                int node = run.make("node", head, of, -1);
                run.due(false, "alike", of, node);
                run.due(false, "alike", number, node);
            }
        }
        run.due(false, "alike", 0, run.make("number", -1));
    }

    /** Two towers of the greatest depth, which differ at their feet alone or not at all. */
    private static void alikeDeep() {
        Run run = new Run("the same HEAD of trees built alike (20 DEEP, TOO GREAT)");
        int[] feet = {run.make("number", 999999), run.make("number", 999999), run.make("number", 1000000)};
        for (int level = 0; level < 20; level++) {
            for (int i = 0; i < 3; i++) {
                feet[i] = run.make("node", 0, feet[i], feet[i]);
            }
        }
        run.due(-1, "terms", feet[0]);
        run.due(20, "deep", feet[0]);
        run.due(true, "alike", feet[0], feet[1]);
        run.due(true, "alike", feet[0], feet[0]);
        run.due(false, "alike", feet[0], feet[2]);
        run.due(false, "alike", feet[0], feet[1] - 3);
    }

    public static void main(String[] args) {
        numbersFromZeroOn();
        atMost120();
        letters();
        numbers();
        treesMadeAhead();
        heads();
        headsOfOneTree();
        deep();
        atMost20Deep();
        deepOfTooGreat();
        termsThatVanish();
        tooGreatIfATreeOfItIs();
        fortyTermsInASum();
        fortyTermsInAProduct();
        fortyTermsInASquare();
        fortyTermsInAThirdPower();
        fortyTermsOfTheWhole();
        fortyTermsBehindManyMore();
        allTermsThereCanBe();
        degreeOfAllPowersTogether();
        degreeOfOneLetter();
        numbersInASum();
        numbersInAProduct();
        numbersInASquare();
        numbersInAThirdPower();
        numbersOfTheWhole();
        numbersThatWouldWrap();
        thirdPowerIfTheSquareIs();
        termsOfATree();
        termWithPowers();
        termWithFarPowers();
        termRefused();
        alike();
        alikeNodes();
        alikeInOnePlace();
        alikeOfOneSort();
        alikeDeep();
        Run.end();
    }
}
