/** Promises 1 to 8. */
final class OfShelves extends Part {
    OfShelves(Sentences sentences) {
        super(sentences);
    }

    @Override
    void ask() {
        promise1();
        promise2();
        promise3();
        promise4();
        promise4Refused();
        promise5();
        promise6();
        promise7();
        promise8();
        promise8Refused();
    }

    private void promise1() {
        asks("Promise 1", "`ChosenBackAtNine()`: Nobody.");
        ChosenBackAtNine x = new ChosenBackAtNine();
        due("NONE", ChosenBackAtNine.NONE, -1);
        due("grown ones", x.status(0), 0);
        due("children", x.status(1), 0);
        due("number 0 of grown ones", x.grownOf(0, 0), -5);
        due("number 0 of children", x.childOf(0, 0), -5);
        due("refusals but those two", Check.allRefusals(x), 2);
    }

    private void promise2() {
        String p = "Promise 2";
        asks(p, "`int row(int s, int sort, int n)`: SHELF s holds a new ROW: 1.");
        for (int s : new int[] {0, 7}) {
            for (int sort = 0; sort <= 3; sort++) {
                ChosenBackAtNine x = small();
                due("row(" + s + ", " + sort + ", 160)", x.row(s, sort, 160), 1);
                due("holds", x.holds(s), 100 + sort);
                due("its first", x.element(s, 0) + x.element(s, 1), 0);
                due("row(" + s + ", " + sort + ", 0)", x.row(s, sort, 0), 1);
                due("holds", x.holds(s), 100 + sort);
                due("has no first", x.set(s, 0, 1), -5);
            }
        }
        asks(p, "-1;");
        for (int s : NO_SHELF) {
            refused(-1, "row(" + s + ", 0, 1)", x -> x.row(s, 0, 1));
        }
        asks(p, "-4;");
        refused(-4, "row(0, 0, -1)", x -> x.row(0, 0, -1));
        refused(-4, "row(0, 0, LOW)", x -> x.row(0, 0, LOW));
        asks(p, "-6 SORT;");
        for (int sort : new int[] {-1, 4, LOW, HIGH}) {
            refused(-6, "row(0, " + sort + ", 1)", x -> x.row(0, sort, 1));
        }
        asks(p, "-7 n above 160.");
        refused(-7, "row(0, 0, 161)", x -> x.row(0, 0, 161));
        refused(-7, "row(0, 0, HIGH)", x -> x.row(0, 0, HIGH));
        due("row(0, 0, 160)", small().row(0, 0, 160), 1);
    }

    private void promise3() {
        String p = "Promise 3";
        asks(p, "`int set(int s, int i, long v)`: Element i of the ROW becomes v: 1.");
        ChosenBackAtNine x = new ChosenBackAtNine();
        x.row(0, 3, 160);
        due("set(0, 0, ..)", x.set(0, 0, Long.MIN_VALUE), 1);
        due("the first", x.element(0, 0), Long.MIN_VALUE);
        due("set(0, 159, ..)", x.set(0, 159, Long.MAX_VALUE), 1);
        due("the last", x.element(0, 159), Long.MAX_VALUE);
        due("between", x.element(0, 1) + x.element(0, 158), 0);
        asks(p, "-1;");
        for (int s : NO_SHELF) {
            refused(-1, "set(" + s + ", 0, 1)", y -> y.set(s, 0, 1));
        }
        asks(p, "-2;");
        refused(-2, "set(2, 0, 1)", y -> y.set(2, 0, 1));
        asks(p, "-3;");
        refused(-3, "set(3, 0, 1)", y -> y.set(3, 0, 1));
        asks(p, "-5.");
        for (int i : new int[] {-1, 4, 160, LOW, HIGH}) {
            refused(-5, "set(0, " + i + ", 1)", y -> y.set(0, i, 1));
        }
    }

    private static ChosenBackAtNine rowOf(int... elements) {
        ChosenBackAtNine x = new ChosenBackAtNine();
        x.row(0, 2, elements.length);
        for (int i = 0; i < elements.length; i++) {
            x.set(0, i, elements[i]);
        }
        return x;
    }

    private void row(ChosenBackAtNine x, int s, int... want) {
        for (int i = 0; i < want.length; i++) {
            due("element(" + s + ", " + i + ")", x.element(s, i), want[i]);
        }
    }

    private void promise4() {
        String p = "Promise 4";
        asks(p, "`int copy(int p, int q, int i, int j, int n)`: Elements i, i + 1, .. of the ROW in SHELF p, n of them, "
                + "come to elements j, j + 1, .. of that in q (as they were ahead): 1.");
        ChosenBackAtNine x = rowOf(1, 2, 3, 4, 5);
        x.row(1, 2, 4);
        due("from the middle to the end", x.copy(0, 1, 1, 2, 2), 1);
        row(x, 1, 0, 0, 2, 3);
        row(x, 0, 1, 2, 3, 4, 5);
        due("of one to its first", x.copy(0, 1, 4, 0, 1), 1);
        row(x, 1, 5, 0, 2, 3);
        due("of all there is room for", x.copy(0, 1, 1, 0, 4), 1);
        row(x, 1, 2, 3, 4, 5);
        ChosenBackAtNine forward = rowOf(1, 2, 3, 4, 5);
        due("onto itself, forward", forward.copy(0, 0, 0, 1, 4), 1);
        row(forward, 0, 1, 1, 2, 3, 4);
        ChosenBackAtNine backward = rowOf(1, 2, 3, 4, 5);
        due("onto itself, backward", backward.copy(0, 0, 1, 0, 4), 1);
        row(backward, 0, 2, 3, 4, 5, 5);
        due("onto itself, in place", backward.copy(0, 0, 0, 0, 5), 1);
        row(backward, 0, 2, 3, 4, 5, 5);
        onlyTold(1, "of none", y -> y.copy(0, 5, 0, 0, 0));
        onlyTold(1, "of none at both ends", y -> y.copy(0, 5, 4, 4, 0));
    }

    private void promise4Refused() {
        String p = "Promise 4";
        asks(p, "-1;");
        for (int s : NO_SHELF) {
            refused(-1, "copy(" + s + ", 0, 0, 0, 1)", x -> x.copy(s, 0, 0, 0, 1));
            refused(-1, "copy(0, " + s + ", 0, 0, 1)", x -> x.copy(0, s, 0, 0, 1));
        }
        asks(p, "-2 also of two SORTS (when both hold something);");
        refused(-2, "copy(2, 0, 0, 0, 1)", x -> x.copy(2, 0, 0, 0, 1));
        refused(-2, "copy(0, 2, 0, 0, 1)", x -> x.copy(0, 2, 0, 0, 1));
        refused(-2, "copy(0, 1, 0, 0, 1)", x -> x.copy(0, 1, 0, 0, 1));
        refused(-2, "copy(4, 6, 0, 0, 0)", x -> x.copy(4, 6, 0, 0, 0));
        refused(-2, "copy(2, 7, 0, 0, 1)", x -> x.copy(2, 7, 0, 0, 1));
        refused(-2, "copy(2, 3, 0, 0, 1)", x -> x.copy(2, 3, 0, 0, 1));
        asks(p, "-3 either;");
        refused(-3, "copy(3, 0, 0, 0, 1)", x -> x.copy(3, 0, 0, 0, 1));
        refused(-3, "copy(4, 3, 0, 0, 1)", x -> x.copy(4, 3, 0, 0, 1));
        refused(-3, "copy(3, 3, 0, 0, 0)", x -> x.copy(3, 3, 0, 0, 0));
        asks(p, "-4 n;");
        refused(-4, "copy(0, 5, 0, 0, -1)", x -> x.copy(0, 5, 0, 0, -1));
        refused(-4, "copy(0, 5, 0, 0, LOW)", x -> x.copy(0, 5, 0, 0, LOW));
        asks(p, "-5 i or j below 0, or an end that isn't there.");
        int[][] calls = {{-1, 0, 1}, {0, -1, 1}, {-1, 0, 0}, {0, -1, 0}, {LOW, 0, 1}, {0, LOW, 1}, {4, 0, 1}, {0, 4, 1},
            {2, 0, 3}, {0, 2, 3}, {0, 0, 5}, {5, 0, 0}, {0, 5, 0}, {HIGH, 0, 1}, {0, HIGH, 1}, {1, 1, HIGH},
            {HIGH, HIGH, HIGH}, {LOW, LOW, HIGH}};
        for (int[] c : calls) {
            String call = "copy(0, 5, " + c[0] + ", " + c[1] + ", " + c[2] + ")";
            refused(-5, call, x -> x.copy(0, 5, c[0], c[1], c[2]));
        }
    }

    private void promise5() {
        asks("Promise 5", "`long element(int s, int i)`: Element i of the ROW; 0 if there is none "
                + "(nothing is refused).");
        due("element(6, 1)", small().element(6, 1), 16);
        int[][] none = {{-1, 0}, {8, 0}, {LOW, 0}, {HIGH, 0}, {0, -1}, {0, 4}, {0, 160}, {0, LOW}, {0, HIGH}, {2, 0},
            {3, 0}};
        for (int[] n : none) {
            onlyTold(0, "element(" + n[0] + ", " + n[1] + ")", x -> (int) x.element(n[0], n[1]));
        }
        ChosenBackAtNine x = rowOf(7, 7, 7);
        x.row(0, 2, 1);
        due("what a longer row had there", x.element(0, 1), 0);
        ChosenBackAtNine y = rowOf(7, 7, 7);
        y.show(0, -1);
        due("what was there", y.element(0, 0) + y.element(0, 1), 0);
    }

    private void promise6() {
        String p = "Promise 6";
        asks(p, "`int show(int s, int grown)`: SHELF s holds a GROWN one, or NOTHING (grown NONE): 1, 0.");
        for (int s = 0; s < 8; s++) {
            ChosenBackAtNine x = small();
            due("show(" + s + ", 6)", x.show(s, 6), 1);
            due("holds", x.holds(s), 6);
            due("show(" + s + ", 0)", x.show(s, 0), 1);
            due("holds", x.holds(s), 0);
            due("show(" + s + ", NONE)", x.show(s, -1), 0);
            due("holds", x.holds(s), -1);
            due("show(" + s + ", NONE) again", x.show(s, -1), 0);
        }
        asks(p, "-1.");
        for (int s : NO_SHELF) {
            refused(-1, "show(" + s + ", 0)", x -> x.show(s, 0));
            refused(-1, "show(" + s + ", NONE)", x -> x.show(s, -1));
        }
        for (int g : new int[] {-2, 7, 8, LOW, HIGH}) {
            refused(-1, "show(0, " + g + ")", x -> x.show(0, g));
        }
        refused(ChosenBackAtNine::new, -1, "show(0, 0) of nobody", x -> x.show(0, 0));
    }

    private void promise7() {
        String p = "Promise 7";
        asks(p, "`int holds(int s)`: What SHELF s holds: NONE NOTHING, or no such SHELF;");
        onlyTold(-1, "holds(3)", x -> x.holds(3));
        for (int s : NO_SHELF) {
            onlyTold(-1, "holds(" + s + ")", x -> x.holds(s));
        }
        asks(p, "a GROWN one's number; 100 and the SORT of a ROW.");
        int[] want = {100, 101, 1, -1, 103, 100, 102, 4};
        for (int s = 0; s < 8; s++) {
            int shelf = s;
            onlyTold(want[s], "holds(" + s + ")", x -> x.holds(shelf));
        }
        ChosenBackAtNine x = full();
        x.show(0, 7);
        due("the greatest number", x.holds(0), 7);
        x.show(0, 0);
        due("the least number", x.holds(0), 0);
    }

    /** Shelf s holds number s, of kind s, a 1 and s, means 50 and s; 4 is a godparent of two. */
    private static ChosenBackAtNine oneOfEachKind() {
        ChosenBackAtNine x = new ChosenBackAtNine();
        for (int kind = 0; kind <= 6; kind++) {
            x.grown(kind, 1 + kind, 50 + kind, 0);
            x.show(kind, kind);
        }
        x.child(0, 0, 0, 4, 6);
        x.child(0, 0, 0, 4, 1);
        return x;
    }

    /** One of a kind, who was given up twice, in shelf 0. */
    private static ChosenBackAtNine droppedTwice(int kind) {
        ChosenBackAtNine x = plain(9, 8);
        x.grown(kind, 0, 0, 0);
        x.grown(0, 0, 0, 0);
        x.child(1, 0, 0, 1, 2);
        x.show(0, 2);
        x.choose(0);
        x.choose(0);
        x.choose(0);
        return x;
    }

    private void promise8() {
        String p = "Promise 8";
        asks(p, "`int says(int s, int kind)`: What the GROWN one in SHELF s, taken for one of a KIND, says: "
                + "GROWN his MEANS;");
        for (int kind = 0; kind <= 6; kind++) {
            int s = kind;
            onlyTold(OfShelves::oneOfEachKind, 50 + kind, "says(" + kind + ", 0)", x -> x.says(s, 0));
        }
        asks(p, "UNCLE, MILLER, PAYING his DROPPED;");
        int[][] asked = {{1, 1}, {3, 1}, {3, 3}, {6, 1}, {6, 3}, {6, 6}};
        for (int[] a : asked) {
            due("kind " + a[0] + " as " + a[1], droppedTwice(a[0]).says(0, a[1]), 2);
            due("kind " + a[0] + " as " + a[1] + ", never dropped", oneOfEachKind().says(a[0], a[1]), 0);
        }
        asks(p, "THIEF, LENDER his a;");
        due("a thief", oneOfEachKind().says(2, 2), 3);
        due("a lender as thief", oneOfEachKind().says(5, 2), 6);
        due("a lender", oneOfEachKind().says(5, 5), 6);
        asks(p, "DEAD his CHARGE.");
        due("the dead, of two", oneOfEachKind().says(4, 4), 2);
        ChosenBackAtNine x = small();
        x.show(0, 6);
        due("the dead, of none", x.says(0, 4), 0);
    }

    private void promise8Refused() {
        String p = "Promise 8";
        asks(p, "-1 SHELF, KIND;");
        for (int s : NO_SHELF) {
            refused(-1, "says(" + s + ", 0)", x -> x.says(s, 0));
        }
        for (int kind : NO_KIND) {
            refused(-1, "says(2, " + kind + ")", x -> x.says(2, kind));
        }
        asks(p, "-2 also a GROWN one of another KIND;");
        for (int s : new int[] {0, 1, 4, 6}) {
            refused(-2, "says(" + s + ", 0) of a row", x -> x.says(s, 0));
        }
        for (int kind : new int[] {2, 3, 4, 5, 6}) {
            refused(-2, "says(2, " + kind + ") of an uncle", x -> x.says(2, kind));
        }
        for (int kind : new int[] {1, 3, 4, 6}) {
            refused(-2, "says(7, " + kind + ") of a lender", x -> x.says(7, kind));
        }
        asks(p, "-3.");
        refused(-3, "says(3, 0)", x -> x.says(3, 0));
        refused(-3, "says(3, 6)", x -> x.says(3, 6));
    }
}
