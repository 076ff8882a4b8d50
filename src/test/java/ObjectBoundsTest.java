/**
 * What the document says of a new object, an empty and a full one, of clear and count, of the calls
 * that an object is used for, and of which exception goes first: one method for each.
 */
public final class ObjectBoundsTest {
    private static final int MIN = Integer.MIN_VALUE;
    private static final int MAX = Integer.MAX_VALUE;

    /** 120 trees, tree 20 of them 20 deep, tree 22 too great, and 60 rows, row 0 of kind 6. */
    private static Run full(String sentence) {
        Run run = new Run(sentence);
        fill(run);
        return run;
    }

    private static void fill(Run run) {
        run.make("leaf", 0);
        for (int i = 0; i < 20; i++) {
            run.make("node", 4, i, -1);
        }
        run.great();
        run.fillTrees(120);
        run.make("load", 6, 0, 1, -1);
        run.done("cofactor", 0, 119);
        run.done("sample", 0, 0, -10);
        run.fillRows(60, 119);
    }

    private static void dueEmpty(Run run) {
        run.due(0, "count", 0);
        run.due(0, "count", 1);
        run.due(7, "count", 2);
        run.due(0, "check", 0, 0);
        run.index("check", 0, 1);
        run.index("terms", 0);
        run.index("term", 0, 0, 0, 0);
        run.index("deep", 0);
        run.index("alike", 0, 0);
        run.index("node", 4, 0, -1);
        run.index("load", 5, 0, -1, -1);
        run.index("rowAt", 0, 0);
        run.index("counted", 0);
        run.index("sample", 0, 0, 0);
        run.index("cofactor", 0, 0);
    }

    private static void newObject() {
        Run run = new Run("SmallChecker(): No trees, no rows");
        dueEmpty(run);
        run.due(0, "leaf", 0);
        run.due(0, "load", 5, 0, -1, -1);
        run.due(1, "count", 0);
        run.due(1, "count", 1);
    }

    private static void objectsOfTheirOwn() {
        Run run = new Run("SmallChecker(): No trees, no rows (beside a full object)");
        Run other = full("SmallChecker(): No trees, no rows");
        dueEmpty(run);
        run.due(0, "number", 3);
        other.due(120, "count", 0);
        other.due(60, "count", 1);
        other.due(1, "term", 0, 1, 0, 0);
        other.due(119, "rowAt", 0, 4);
    }

    /** Calls on two objects in turns; then each is asked, and not one that is made anew. */
    private static void objectsInTurns() {
        Run some = new Run("SmallChecker(): No trees, no rows (two objects in turns)");
        Run others = new Run("SmallChecker(): No trees, no rows (two objects in turns)");
        for (int i = 0; i < 3; i++) {
            some.due(i, "leaf", i);
            others.due(i, "number", 10 + i);
        }
        some.due(3, "node", 0, 0, 1);
        others.due(3, "node", 2, 0, 1);
        some.due(4, "node", 3, 3, -1);
        others.due(4, "node", 4, 3, -1);
        some.due(0, "load", 6, 4, 3, -1);
        others.due(0, "load", 6, 3, 0, -1);
        some.done("cofactor", 0, 3);
        others.done("cofactor", 0, 1);
        some.due(1, "load", 4, 0, 1, -1);
        others.due(1, "load", 5, 4, -1, -1);
        some.done("sample", 1, 0, 7);
        others.done("sample", 1, 0, -7);
        dueTurns(some, others);
        others.done("clear");
        some.due(5, "count", 0);
        some.due(3, "terms", 4);
        some.due(2, "check", 0, 2);
        dueEmpty(others);
    }

    private static void dueTurns(Run some, Run others) {
        some.due(3, "terms", 4);
        others.due(1, "terms", 4);
        some.due(2, "term", 4, 1, 1, 0);
        others.due(-110, "term", 4, 0, 0, 0);
        some.due(2, "deep", 4);
        others.due(2, "deep", 4);
        some.due(false, "alike", 0, 1);
        others.due(false, "alike", 3, 4);
        int[][] ofSome = {{6, 4, 3, -1, 3, 0, 0, 0}, {4, 0, 1, -1, -1, 7, 0, 0}};
        int[][] ofOthers = {{6, 3, 0, -1, 1, 0, 0, 0}, {5, 4, -1, -1, -1, -7, 0, 0}};
        for (int row = 0; row < 2; row++) {
            for (int what = 0; what < 8; what++) {
                some.due(ofSome[row][what], "rowAt", row, what);
                others.due(ofOthers[row][what], "rowAt", row, what);
            }
        }
        some.due(2, "check", 0, 2);
        others.due(2, "check", 0, 2);
        some.due(0, "check", 0, 1);
        others.due(0, "check", 0, 1);
        some.due(5, "counted", 0);
        others.due(2, "counted", 0);
    }

    private static void count() {
        Run run = new Run("what 0: trees, 1: rows, 2: KINDS; -1 for another what");
        for (int trees = 0; trees <= 120; trees++) {
            run.due(trees, "count", 0);
            if (trees < 120) {
                run.make("leaf", trees % 3);
            }
        }
        for (int rows = 0; rows <= 60; rows++) {
            run.due(rows, "count", 1);
            if (rows < 60) {
                run.make("load", 5, 0, -1, -1);
            }
        }
        run.due(7, "count", 2);
        for (int what : new int[] {-1, 3, 4, 7, -2, MIN, MAX}) {
            run.due(-1, "count", what);
        }
    }

    /** Refused calls make no tree and no row. */
    private static void countOfRefused() {
        Run run = new Run("what 0: trees, 1: rows (behind refused calls)");
        run.argument("leaf", 3);
        run.argument("number", 1000001);
        run.due(0, "count", 0);
        run.make("leaf", 0);
        run.argument("node", 6, 0, -1);
        run.argument("load", 5, 0, 0, -1);
        run.due(1, "count", 0);
        run.due(0, "count", 1);
    }

    private static void clearOfAnEmptyObject() {
        Run run = new Run("clear(): No trees, no rows (of an empty object)");
        run.done("clear");
        dueEmpty(run);
        run.done("clear");
        run.done("clear");
        run.due(0, "leaf", 1);
        run.done("clear");
        dueEmpty(run);
        run.dueLike(new Run(""));
    }

    private static void clearOfAFullObject() {
        Run run = full("clear(): No trees, no rows (of a full object)");
        run.state("leaf", 0);
        run.state("load", 0, 0, 0, -1);
        run.done("clear");
        dueEmpty(run);
        run.dueLike(new Run(""));
        fill(run);
        run.dueLike(full(""));
        run.due(120, "count", 0);
        run.due(60, "count", 1);
        run.state("leaf", 0);
        run.state("load", 0, 0, 0, -1);
    }

    /** Of three objects: the later trees of one were too great, of one of degree 9, of one of 40 terms. */
    private static void clearLeavesNothing() {
        for (int cause = 0; cause < 3; cause++) {
            Run run = Run.withLetters("clear(): No trees, no rows (nothing of them comes back)");
            int tree = cause == 0 ? run.great() : cause == 1 ? run.monomial(1, 4, 4, 1) : run.forty();
            for (int i = run.trees(); i < 110; i++) {
                run.make("node", 4, tree, -1);
            }
            for (int row = 0; row < 5; row++) {
                run.make("load", 6, tree, 0, -1);
                run.done("cofactor", row, tree);
                run.done("sample", row, row % 3, 10);
            }
            run.done("clear");
            Run plain = new Run("");
            makeFew(run);
            makeFew(plain);
            run.dueLike(plain);
            dueFew(run);
        }
    }

    /** Behind 60 numbers, where others stood: a ninth power, no term, and two rows. */
    private static void makeFew(Run run) {
        run.fillTrees(60);
        int z = run.make("leaf", 2);
        int third = run.make("node", 2, run.make("node", 2, z, z), z);
        int ninth = run.make("node", 5, third, -1);
        run.make("node", 2, ninth, run.make("number", 2));
        run.make("node", 1, z, z);
        run.make("load", 6, z, ninth, -1);
        run.make("load", 0, third, third, -1);
    }

    private static void dueFew(Run run) {
        run.due(67, "count", 0);
        run.due(59, "term", 59, 0, 0, 0);
        run.due(1, "term", 63, 0, 0, 9);
        run.due(2, "term", 65, 0, 0, 9);
        run.due(0, "terms", 66);
        run.due(2, "count", 1);
        run.due(-1, "rowAt", 0, 4);
        run.due(0, "rowAt", 0, 5);
        run.due(0, "rowAt", 1, 6);
        run.due(1, "check", 0, 2);
        run.due(0, "check", 1, 2);
    }

    private static void used512Times() {
        Run run = new Run("An object is used for at most 512 calls after it has been made");
        int calls = 0;
        while (calls < 508) {
            run.due(0, "number", 7);
            run.due(1, "node", 5, 0, -1);
            run.due(343, "term", 1, 0, 0, 0);
            run.done("clear");
            calls += 4;
        }
        run.due(0, "leaf", 1);
        run.due(1, "node", 5, 0, -1);
        run.due(0, "load", 1, 1, 0, 0);
        run.due(1, "check", 0, 1);
    }

    private static void checked512Times() {
        Run run = full("An object is used for at most 512 calls (full, and checked)");
        for (int calls = 120 + 62; calls < Run.MOST_CALLS; calls++) {
            run.due(calls % 2 == 0 ? 1 : 0, "check", calls % 2, 60);
        }
    }

    /** Of all sorts: trees 0 to 2 letters, 3 x + y, 5 too great, row 0 of kind 6, row 1 of kind 5. */
    private static Run ofAllSorts(String sentence) {
        Run run = Run.withLetters(sentence);
        run.make("node", 0, 0, 1);
        run.great();
        run.make("load", 6, 3, 3, -1);
        run.make("load", 5, 0, -1, -1);
        run.done("sample", 1, 0, 3);
        return run;
    }

    private static void theLastOf512(Object want, String name, int... args) {
        Run run = ofAllSorts("An object is used for at most 512 calls (the last of them)");
        while (run.used() < Run.MOST_CALLS - 1) {
            run.due(run.used() % 2 == 0 ? 1 : 0, "check", run.used() % 2, 2);
        }
        run.due(want, name, args);
    }

    private static void eachCallAsTheLast() {
        theLastOf512(6, "leaf", 2);
        theLastOf512(6, "number", 1000000);
        theLastOf512(6, "node", 5, 3, -1);
        theLastOf512(2, "load", 2, 3, 0, 1);
        theLastOf512("done", "cofactor", 0, 3);
        theLastOf512("done", "sample", 0, 2, -10);
        theLastOf512(1, "check", 0, 2);
        theLastOf512(3, "rowAt", 1, 5);
        theLastOf512(4, "counted", 0);
        theLastOf512(-1, "terms", 5);
        theLastOf512(1, "term", 3, 0, 1, 0);
        theLastOf512(1, "deep", 3);
        theLastOf512(true, "alike", 3, 3);
        theLastOf512(6, "count", 0);
        theLastOf512("done", "clear");
        String[] thrown = {"throws.ArrayIndexOutOfBoundsException", "throws.IllegalArgumentException",
            "throws.IllegalStateException"};
        theLastOf512(thrown[0], "node", 0, 6, 0);
        theLastOf512(thrown[1], "leaf", 3);
        theLastOf512(thrown[2], "term", 5, 0, 0, 0);
    }

    private static void askingChangesNothing() {
        Run run = ofAllSorts("Nothing is promised beyond the .. state changes described");
        run.dueUnchanged(1, "check", 0, 2);
        run.dueUnchanged(0, "check", 1, 2);
        run.dueUnchanged(0, "check", 2, 2);
        run.dueUnchanged(5, "rowAt", 1, 0);
        run.dueUnchanged(-1, "rowAt", 0, 4);
        run.dueUnchanged(4, "counted", 0);
        run.dueUnchanged(2, "terms", 3);
        run.dueUnchanged(-1, "terms", 5);
        run.dueUnchanged(1, "term", 3, 1, 0, 0);
        run.dueUnchanged(0, "term", 3, 0, 0, 0);
        run.dueUnchanged(1, "deep", 3);
        run.dueUnchanged(true, "alike", 2, 2);
        run.dueUnchanged(false, "alike", 3, 2);
        for (int what = -1; what <= 3; what++) {
            run.dueUnchanged(what == 0 ? 6 : what == 1 ? 2 : what == 2 ? 7 : -1, "count", what);
        }
    }

    /** A tree, a row, a sample or a cofactor more leaves all that was there as it was. */
    private static void makingLeavesTheRest() {
        Run run = ofAllSorts("Nothing is promised beyond the .. state changes described (of what was there)");
        run.make("leaf", 1);
        run.make("number", -1000000);
        run.make("node", 2, 3, 3);
        run.make("node", 5, 5, -1);
        run.make("load", 6, 8, 3, -1);
        run.done("cofactor", 2, 3);
        run.done("sample", 2, 1, 10);
        run.due(0, "check", 2, 3);
        run.dueLeft(ofAllSorts(""));
    }

    // Which exception goes first.

    private static void firstOfLeafAndNumber() {
        Run run = full("Of several the one that stands first behind \"throws\" is thrown (leaf, number)");
        run.argument("leaf", 3);
        run.argument("leaf", -1);
        run.state("leaf", 2);
        run.state("leaf", 0);
        run.argument("number", 1000001);
        run.argument("number", -1000001);
        run.state("number", 1000000);
        run.state("number", -1000000);
    }

    private static void firstOfNode() {
        Run run = full("Of several the one that stands first behind \"throws\" is thrown (node)");
        // No such tree, with no such head, with b that must be -1, too deep, and full.
        run.index("node", -1, 120, 0);
        run.index("node", -1, 0, 120);
        run.index("node", -1, 0, -1);
        run.index("node", 6, 120, -1);
        run.index("node", 6, -1, 0);
        run.index("node", 6, 0, 120);
        run.index("node", 3, 0, 120);
        run.index("node", 3, 120, 0);
        run.index("node", 0, 20, 120);
        run.index("node", 0, 120, 20);
        run.index("node", 0, 120, 0);
        run.index("node", 5, 120, -1);
        // No such head, b that must be -1, or too deep, and full.
        run.argument("node", -1, 0, 0);
        run.argument("node", 6, 0, -1);
        run.argument("node", 6, 20, -1);
        run.argument("node", 3, 0, 0);
        run.argument("node", 3, 20, 0);
        run.argument("node", 0, 20, 0);
        run.argument("node", 1, 0, 20);
        run.argument("node", 4, 20, -1);
        run.state("node", 0, 19, 0);
        run.state("node", 5, 19, -1);
        run.state("node", 2, 22, 22);
    }

    /** The same with room for one more tree. */
    private static void firstOfNodeWithRoom() {
        Run run = new Run("Of several the one that stands first behind \"throws\" is thrown (node, not full)");
        run.make("leaf", 0);
        for (int i = 0; i < 20; i++) {
            run.make("node", 4, i, -1);
        }
        run.index("node", 6, 21, -1);
        run.index("node", -1, 0, 21);
        run.index("node", 3, 20, 21);
        run.index("node", 0, 20, 21);
        run.argument("node", 6, 20, 20);
        run.argument("node", 4, 20, 0);
        run.argument("node", 0, 20, 20);
        run.due(21, "node", 0, 19, 19);
    }

    private static void firstOfLoad() {
        for (int rows = 0; rows <= 60; rows += 60) {
            Run run = Run.withLetters("Of several the one that stands first behind \"throws\" is thrown (load)");
            run.fillRows(rows, 0);
            run.index("load", 7, 3, 0, 0);
            run.index("load", -1, -1, 0, 0);
            run.index("load", 0, 0, 3, 0);
            run.index("load", 0, 3, 0, 5);
            run.index("load", 1, 0, 3, 3);
            run.index("load", 1, 3, 0, -1);
            run.index("load", 2, 0, 0, 3);
            run.index("load", 3, 3, 11, 0);
            run.index("load", 3, -1, 0, 3);
            run.index("load", 4, 0, -1, 0);
            run.index("load", 5, 3, 0, 0);
            run.index("load", 6, 0, 3, 0);
            run.argument("load", 7, 0, 3, 3);
            run.argument("load", 0, 0, 0, 0);
            run.argument("load", 1, 0, 0, 3);
            run.argument("load", 3, 0, 11, 0);
            run.argument("load", 3, 0, -10, 3);
            run.argument("load", 4, 0, 0, 0);
            run.argument("load", 5, 0, 0, -1);
            run.argument("load", 5, 0, -1, 0);
            run.argument("load", 6, 0, 0, 0);
            if (rows == 60) {
                run.state("load", 2, 0, 0, 0);
                run.state("load", 3, 0, 10, 2);
            }
        }
    }

    private static void firstOfTheOthers() {
        Run run = Run.withLetters("Of several the one that stands first behind \"throws\" is thrown (the others)");
        int great = run.great();
        run.make("load", 0, 0, 1, -1);
        run.make("load", 6, 0, 1, -1);
        run.index("cofactor", 0, run.trees());
        run.index("cofactor", 0, -1);
        run.argument("cofactor", 0, 0);
        run.index("cofactor", 1, -1);
        run.index("sample", 0, 3, 11);
        run.index("sample", 0, -1, -11);
        run.index("sample", 2, 0, 11);
        run.index("sample", -1, 0, 11);
        run.argument("sample", 0, 0, 11);
        run.index("term", great + 1, 0, 0, 0);
        run.state("term", great, 0, 0, 0);
    }

    public static void main(String[] args) {
        newObject();
        objectsOfTheirOwn();
        objectsInTurns();
        count();
        countOfRefused();
        clearOfAnEmptyObject();
        clearOfAFullObject();
        clearLeavesNothing();
        used512Times();
        checked512Times();
        eachCallAsTheLast();
        askingChangesNothing();
        makingLeavesTheRest();
        firstOfLeafAndNumber();
        firstOfNode();
        firstOfNodeWithRoom();
        firstOfLoad();
        firstOfTheOthers();
        Run.end();
    }
}
