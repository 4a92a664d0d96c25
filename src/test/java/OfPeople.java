/** Promises 9 to 18. */
final class OfPeople extends Part {
    OfPeople(Sentences sentences) {
        super(sentences);
    }

    @Override
    void ask() {
        promise9();
        promise10();
        promise11();
        promise12();
        promise13();
        promise14();
        promise15();
        promise16();
        promise17();
        promise18();
    }

    private void promise9() {
        String p = "Promise 9";
        asks(p, "`int grown(int kind, int a, int means, int tricks)`: A GROWN one: the number.");
        ChosenBackAtNine x = new ChosenBackAtNine();
        due("the least of all", x.grown(0, 0, 0, 0), 0);
        due("the most of all", x.grown(6, 9, 60, 9), 1);
        int[] want = {6, 9, 60, 9, 0, 0, 12};
        for (int what = 0; what < 7; what++) {
            due("grownOf(1, " + what + ")", x.grownOf(1, what), want[what]);
        }
        asks(p, "-1 KIND;");
        for (int kind : NO_KIND) {
            refused(-1, "grown(" + kind + ", 0, 0, 0)", y -> y.grown(kind, 0, 0, 0));
        }
        asks(p, "-6;");
        int[][] calls = {{-1, 0, 0}, {10, 0, 0}, {0, -1, 0}, {0, 61, 0}, {0, 0, -1}, {0, 0, 10}, {LOW, HIGH, LOW}};
        for (int[] c : calls) {
            String call = "grown(0, " + c[0] + ", " + c[1] + ", " + c[2] + ")";
            refused(-6, call, y -> y.grown(0, c[0], c[1], c[2]));
        }
        asks(p, "-7.");
        refused(Part::full, -7, "a ninth", y -> y.grown(0, 0, 0, 0));
        refused(Part::full, -7, "a ninth, of the most", y -> y.grown(6, 9, 60, 9));
    }

    private void promise10() {
        String p = "Promise 10";
        asks(p, "`int child(int taste, int greed, int one, int two, int three)`: A CHILD with three "
                + "GODPARENTS: the number.");
        ChosenBackAtNine x = plain(0, 0, 0, 0, 0, 0, 0, 0);
        due("the least of all", x.child(0, 0, 2, 1, 0), 0);
        due("the most of all", x.child(9, 9, 5, 6, 7), 1);
        int[][] want = {{0, 0, 0, 7}, {9, 9, 0, 224}};
        for (int child = 0; child < 2; child++) {
            for (int what = 0; what < 4; what++) {
                due("childOf(" + child + ", " + what + ")", x.childOf(child, what), want[child][what]);
            }
        }
        asks(p, "-1 one of them;");
        for (int g : NO_GROWN) {
            refused(-1, "child(0, 0, " + g + ", 0, 1)", y -> y.child(0, 0, g, 0, 1));
            refused(-1, "child(0, 0, 0, " + g + ", 1)", y -> y.child(0, 0, 0, g, 1));
            refused(-1, "child(0, 0, 0, 1, " + g + ")", y -> y.child(0, 0, 0, 1, g));
            refused(-1, "child(0, 0, " + g + ", thrice)", y -> y.child(0, 0, g, g, g));
        }
        asks(p, "-6 also two the same;");
        int[][] same = {{0, 0, 1}, {0, 1, 0}, {1, 0, 0}, {6, 6, 6}};
        for (int[] s : same) {
            String call = "child(0, 0, " + s[0] + ", " + s[1] + ", " + s[2] + ")";
            refused(-6, call, y -> y.child(0, 0, s[0], s[1], s[2]));
        }
        for (int v : new int[] {-1, 10, LOW, HIGH}) {
            refused(-6, "child(" + v + ", 0, 0, 1, 2)", y -> y.child(v, 0, 0, 1, 2));
            refused(-6, "child(0, " + v + ", 0, 1, 2)", y -> y.child(0, v, 0, 1, 2));
        }
        asks(p, "-7.");
        refused(Part::full, -7, "a seventh", y -> y.child(0, 0, 0, 1, 2));
    }

    private void promise11() {
        String p = "Promise 11";
        asks(p, "`int flood(int v)`: FLOOD becomes v: what it was.");
        ChosenBackAtNine x = new ChosenBackAtNine();
        due("flood(9)", x.flood(9), 0);
        due("it is", x.status(2), 9);
        due("flood(0)", x.flood(0), 9);
        due("it is", x.status(2), 0);
        due("flood(1)", x.flood(1), 0);
        asks(p, "-6.");
        for (int v : new int[] {-1, 10, LOW, HIGH}) {
            refused(-6, "flood(" + v + ")", y -> y.flood(v));
        }
    }

    private void promise12() {
        String p = "Promise 12";
        asks(p, "`int age(int child, int v)`: AGE of a CHILD becomes v: what it was.");
        ChosenBackAtNine x = small();
        due("age(1, 30)", x.age(1, 30), 7);
        due("age(0, 30)", x.age(0, 30), 0);
        due("age(1, 0)", x.age(1, 0), 30);
        due("it is", x.childOf(1, 2), 0);
        due("the other's is", x.childOf(0, 2), 30);
        asks(p, "-1;");
        for (int c : NO_CHILD) {
            refused(-1, "age(" + c + ", 0)", y -> y.age(c, 0));
        }
        asks(p, "-6.");
        for (int v : new int[] {-1, 31, LOW, HIGH}) {
            refused(-6, "age(1, " + v + ")", y -> y.age(1, v));
        }
    }

    private void promise13() {
        String p = "Promise 13";
        asks(p, "`int gift(int child, int grown, int n)`: n gifts (0 to 20) of a GROWN one to a CHILD: LIKING then.");
        ChosenBackAtNine x = small();
        due("no gifts", x.gift(0, 3, 0), 8);
        due("20 gifts by greed 2", x.gift(0, 3, 20), 48);
        due("one to the other, by greed 5", x.gift(1, 3, 1), 5);
        due("19 more", x.gift(1, 3, 18), 95);
        due("held", x.gift(1, 3, 20), 99);
        due("held still, by none", x.gift(1, 3, 0), 99);
        due("he who gives has as much", x.grownOf(3, 2), 30);
        asks(p, "-1;");
        for (int c : NO_CHILD) {
            refused(-1, "gift(" + c + ", 0, 1)", y -> y.gift(c, 0, 1));
        }
        for (int g : NO_GROWN) {
            refused(-1, "gift(0, " + g + ", 1)", y -> y.gift(0, g, 1));
        }
        asks(p, "-6 also of a DEAD one.");
        for (int n : new int[] {-1, 21, LOW, HIGH}) {
            refused(-6, "gift(0, 3, " + n + ")", y -> y.gift(0, 3, n));
        }
        for (int n : new int[] {0, 1, 20}) {
            refused(-6, "gift(0, 2, " + n + ")", y -> y.gift(0, 2, n));
            refused(-6, "gift(0, 6, " + n + ")", y -> y.gift(0, 6, n));
        }
    }

    private void promise14() {
        String p = "Promise 14";
        asks(p, "`int grownOf(int grown, int what)`: Of a GROWN one: 0 KIND, 1 a, 2 MEANS, 3 TRICKS, 4 DROPPED, "
                + "5 CHARGE, 6 SHOES.");
        int[][] want = {{0, 1, 20, 4, 0, 1, 4}, {1, 3, 10, 6, 0, 2, 2}, {4, 0, 60, 9, 0, 2, 12}, {3, 2, 30, 2, 0, 1, 6},
            {5, 2, 9, 3, 0, 0, 1}, {0, 0, 6, 1, 0, 0, 1}, {4, 5, 5, 5, 0, 0, 1}};
        ChosenBackAtNine x = small();
        for (int g = 0; g < want.length; g++) {
            for (int what = 0; what < 7; what++) {
                due("grownOf(" + g + ", " + what + ")", x.grownOf(g, what), want[g][what]);
            }
        }
        x.choose(0);
        due("dropped then", x.grownOf(2, 4), 1);
        due("charge then", x.grownOf(2, 5), 1);
        asks(p, "-5: no such one, another what.");
        for (int g : NO_GROWN) {
            refused(-5, "grownOf(" + g + ", 0)", y -> y.grownOf(g, 0));
        }
        for (int what : new int[] {-1, 7, LOW, HIGH}) {
            refused(-5, "grownOf(0, " + what + ")", y -> y.grownOf(0, what));
        }
    }

    private void promise15() {
        String p = "Promise 15";
        asks(p, "`int childOf(int child, int what)`: Of a CHILD: 0 TASTE, 1 GREED, 2 AGE, 3 GODPARENTS (bits).");
        int[][] want = {{3, 2, 0, 7}, {1, 5, 7, 14}};
        ChosenBackAtNine x = small();
        for (int c = 0; c < 2; c++) {
            for (int what = 0; what < 4; what++) {
                due("childOf(" + c + ", " + what + ")", x.childOf(c, what), want[c][what]);
            }
        }
        due("the last three of eight, by the last child of six", full().childOf(5, 3), 224);
        asks(p, "-5: no such one, another what.");
        for (int c : NO_CHILD) {
            refused(-5, "childOf(" + c + ", 0)", y -> y.childOf(c, 0));
        }
        for (int what : new int[] {-1, 4, LOW, HIGH}) {
            refused(-5, "childOf(0, " + what + ")", y -> y.childOf(0, what));
        }
    }

    private void promise16() {
        String p = "Promise 16";
        asks(p, "`int pull(int child, int grown, int what)`: LIKING (what 0), PULL (1).");
        ChosenBackAtNine x = small();
        due("liking", x.pull(0, 3, 0), 8);
        due("pull", x.pull(0, 3, 1), 26);
        due("liking by the other", x.pull(1, 3, 0), 0);
        due("pull on the other", x.pull(1, 3, 1), 14);
        due("pull of the last", x.pull(1, 6, 1), 7);
        asks(p, "-1;");
        for (int c : NO_CHILD) {
            refused(-1, "pull(" + c + ", 0, 0)", y -> y.pull(c, 0, 0));
        }
        for (int g : NO_GROWN) {
            refused(-1, "pull(0, " + g + ", 1)", y -> y.pull(0, g, 1));
        }
        asks(p, "-5 another what.");
        for (int what : new int[] {-1, 2, LOW, HIGH}) {
            refused(-5, "pull(0, 0, " + what + ")", y -> y.pull(0, 0, what));
        }
    }

    private void promise17() {
        String p = "Promise 17";
        asks(p, "`int parish(int s)`: A PARISH by the ROW in SHELF s: how many ITEMS.");
        ChosenBackAtNine x = new ChosenBackAtNine();
        items(x, "flood 1", 1);
        items(x, "grown 0 0 0 0;grown 0 0 0 0;grown 0 0 0 0;child 0 0 0 1 2;gift 0 0 1;age 0 1;flood 2", 7);
        items(x, "flood 1;".repeat(19) + "flood 02", 20);
        for (int s = 0; s < 8; s++) {
            Check.putText(x, s, s % 4, "flood " + s);
            due("parish(" + s + ")", x.parish(s), 1);
            due("its flood", x.status(2), s);
        }
        asks(p, "-1;");
        for (int s : NO_SHELF) {
            refused(-1, "parish(" + s + ")", y -> y.parish(s));
        }
        asks(p, "-2;");
        refused(-2, "parish(2)", y -> y.parish(2));
        refused(-2, "parish(7)", y -> y.parish(7));
        asks(p, "-3;");
        refused(-3, "parish(3)", y -> y.parish(3));
        asks(p, "-6 a FAULT.");
        fault("", 0);
        fault("flood 1;", 8);
        fault(Part::small, "grown 0 0 0 0;grown 0 0 0 0", 14);
    }

    private void promise18() {
        String p = "Promise 18";
        asks(p, "`int fault()`: The FAULT of the latest parish() that came to a ROW;");
        ChosenBackAtNine x = new ChosenBackAtNine();
        Check.putText(x, 0, 0, "flood 10");
        Check.putText(x, 1, 0, "flood 1;");
        x.parish(0);
        due("fault()", x.fault(), 6);
        x.parish(1);
        due("fault() of the latest", x.fault(), 8);
        x.parish(2);
        x.parish(8);
        due("fault() when the latest came to no row", x.fault(), 8);
        due("fault() is asked and stays", x.fault(), 8);
        asks(p, "NONE: there was none, or none yet.");
        onlyTold(ChosenBackAtNine::new, -1, "fault() at first", y -> y.fault());
        onlyTold(-1, "fault() without a parish()", y -> y.fault());
        Check.putText(x, 0, 0, "flood 1");
        x.parish(0);
        due("fault() of one that stands", x.fault(), -1);
    }
}
