/** Promises 19 to 29. */
final class OfTelling extends Part {
    private static final int[] NO_WHAT_OF_TWO = {-1, 2, LOW, HIGH};

    OfTelling(Sentences sentences) {
        super(sentences);
    }

    @Override
    void ask() {
        promise19();
        promise20();
        promise21();
        promise22();
        promise23();
        promise24();
        promise25();
        promise26();
        promise27();
        promise28();
        promise28Refused();
        promise29();
    }

    private void promise19() {
        String p = "Promise 19";
        asks(p, "`int chooses(int child, int what)`: Whom a CHILD GIVES UP (what 0; NONE), KEEPS (1), "
                + "TAKES (2; NONE).");
        choice(small(), 0, 2, 1, 3);
        choice(small(), 1, 2, 3, 4);
        choice(three(), 0, -1, 2, -1);
        asks(p, "-11;");
        for (int c : NO_CHILD) {
            refused(-11, "chooses(" + c + ", 0)", x -> x.chooses(c, 0));
        }
        asks(p, "-15 another what (counted as -1, -5).");
        for (int what : new int[] {-1, 3, LOW, HIGH}) {
            refused(-15, "chooses(0, " + what + ")", x -> x.chooses(0, what));
        }
        refused(Part::three, -15, "chooses(0, 3) where nobody is to take", x -> x.chooses(0, 3));
    }

    private void promise20() {
        String p = "Promise 20";
        asks(p, "`int by(int grown, int what)`: CHILDREN (bits): GIVEN UP by (what 0), KEPT by (1), TAKEN by (2); "
                + "CHARGE then (3).");
        int[][] want = {{0, 0, 0, 1}, {0, 1, 0, 2}, {3, 0, 0, 0}, {0, 2, 1, 2}, {0, 0, 2, 1}, {0, 0, 0, 0},
            {0, 0, 0, 0}};
        ChosenBackAtNine x = small();
        for (int g = 0; g < want.length; g++) {
            for (int what = 0; what < 4; what++) {
                due("by(" + g + ", " + what + ")", x.by(g, what), want[g][what]);
            }
        }
        ChosenBackAtNine childless = plain(1);
        for (int what = 0; what < 4; what++) {
            due("by(0, " + what + ") without children", childless.by(0, what), 0);
        }
        asks(p, "-1;");
        for (int g : NO_GROWN) {
            refused(-1, "by(" + g + ", 0)", y -> y.by(g, 0));
        }
        asks(p, "-5 another what.");
        for (int what : new int[] {-1, 4, LOW, HIGH}) {
            refused(-5, "by(0, " + what + ")", y -> y.by(0, what));
        }
    }

    private void promise21() {
        String p = "Promise 21";
        asks(p, "`int favourite(int what)`: FAVOURITE (what 0; NONE nobody TAKES anybody), BARE (1).");
        due("of two taken by one each", small().favourite(0), 3);
        due("nobody is bare", small().favourite(1), 0);
        due("nobody to take", three().favourite(0), -1);
        due("all three are bare", three().favourite(1), 3);
        due("no children", plain(1, 2, 3, 4).favourite(0), -1);
        due("nobody at all", new ChosenBackAtNine().favourite(0), -1);
        due("nobody at all is bare", new ChosenBackAtNine().favourite(1), 0);
        // The first child has no taste and takes 3, the last has 7 and takes 4, all between take 7.
        due("of eight", full().favourite(0), 7);
        asks(p, "-15 another what (counted as -5).");
        for (int what : NO_WHAT_OF_TWO) {
            refused(-15, "favourite(" + what + ")", x -> x.favourite(what));
        }
        refused(ChosenBackAtNine::new, -15, "favourite(2) of nobody", x -> x.favourite(2));
    }

    private void promise22() {
        String p = "Promise 22";
        asks(p, "`int picks(int child)`: PICKS: whom one gets; NONE.");
        onlyTold(3, "picks(0)", x -> x.picks(0));
        onlyTold(4, "picks(1)", x -> x.picks(1));
        due("nobody but its three", three().picks(0), -1);
        due("nobody who can shoe", full().picks(0), -1);
        asks(p, "-11 (counted as -1).");
        for (int c : NO_CHILD) {
            refused(-11, "picks(" + c + ")", x -> x.picks(c));
        }
        refused(ChosenBackAtNine::new, -11, "picks(0) of nobody", x -> x.picks(0));
    }

    private void promise23() {
        String p = "Promise 23";
        asks(p, "`int woo(int grown, int child, int what)`: WOO (what 0), HOLD (1; of a GODPARENT); NONE.");
        // Child 0 is pulled 12, 21 and 0 by its own, by others 26 at most; greed 2.
        due("who is kept", small().woo(1, 0, 0), 0);
        due("to be kept: 12 and 10", small().woo(0, 0, 0), 5);
        due("who is taken", small().woo(3, 0, 0), 0);
        due("to be taken: 3 and 24", small().woo(5, 0, 0), 12);
        due("to be held, as he is", small().woo(0, 0, 1), 0);
        due("to be held", threeAndOne().woo(0, 0, 1), 1);
        due("never, without greed", plainOf(0).woo(0, 0, 0), -1);
        due("never held, without greed", plainOf(0).woo(0, 0, 1), -1);
        asks(p, "-11;");
        for (int g : NO_GROWN) {
            refused(-11, "woo(" + g + ", 0, 0)", x -> x.woo(g, 0, 0));
        }
        for (int c : NO_CHILD) {
            refused(-11, "woo(0, " + c + ", 0)", x -> x.woo(0, c, 0));
        }
        asks(p, "-15 another what;");
        for (int what : NO_WHAT_OF_TWO) {
            refused(-15, "woo(0, 0, " + what + ")", x -> x.woo(0, 0, what));
        }
        asks(p, "-16 a DEAD one, HOLD of who is none (counted as -1, -5, -6).");
        refused(-16, "woo(2, 0, 0) of a dead godparent", x -> x.woo(2, 0, 0));
        refused(-16, "woo(2, 0, 1) of a dead godparent", x -> x.woo(2, 0, 1));
        refused(-16, "woo(6, 0, 0) of the dead", x -> x.woo(6, 0, 0));
        refused(-16, "woo(6, 0, 1) of the dead", x -> x.woo(6, 0, 1));
        refused(-16, "woo(3, 0, 1) of no godparent", x -> x.woo(3, 0, 1));
        refused(-16, "woo(0, 1, 1) of no godparent", x -> x.woo(0, 1, 1));
    }

    private static ChosenBackAtNine threeAndOne() {
        return plainOf(2);
    }

    /** A child of a greed, its own of pull 1, 2, 3, and one of pull 4. */
    private static ChosenBackAtNine plainOf(int greed) {
        ChosenBackAtNine x = plain(1, 2, 3, 4);
        x.child(1, greed, 0, 1, 2);
        return x;
    }

    private void promise24() {
        String p = "Promise 24";
        asks(p, "`int two(int one, int other, int child, int what)`: TWO: who wins (what 0), the PRICE (1).");
        // On child 0, of greed 2: 3 pulls 26 and gives 10 at most; 4 pulls 19 and gives 3; 5 pulls 3 and gives 2.
        due("3 and 4", small().two(3, 4, 0, 0), 3);
        due("26 is ahead of 25", small().two(3, 4, 0, 1), 0);
        due("4 and 5", small().two(4, 5, 0, 0), 4);
        due("19 is ahead of 7", small().two(5, 4, 0, 1), 0);
        // On child 1, of greed 5: 0 pulls 4 and gives 6; 4 pulls 7 and gives 3; 5 pulls 1 and gives 2.
        due("34 and 22", small().two(4, 0, 1, 0), 0);
        due("24 is ahead of 22", small().two(4, 0, 1, 1), 4);
        due("34 and 11", small().two(5, 0, 1, 0), 0);
        due("14 is ahead of 11", small().two(5, 0, 1, 1), 2);
        asks(p, "-1 also the same;");
        for (int g : NO_GROWN) {
            refused(-1, "two(" + g + ", 3, 0, 0)", x -> x.two(g, 3, 0, 0));
            refused(-1, "two(3, " + g + ", 0, 0)", x -> x.two(3, g, 0, 0));
        }
        for (int c : NO_CHILD) {
            refused(-1, "two(3, 4, " + c + ", 0)", x -> x.two(3, 4, c, 0));
        }
        refused(-1, "two(3, 3, 0, 0)", x -> x.two(3, 3, 0, 0));
        refused(-1, "two(2, 2, 0, 2)", x -> x.two(2, 2, 0, 2));
        asks(p, "-5 another what;");
        for (int what : NO_WHAT_OF_TWO) {
            refused(-5, "two(3, 4, 0, " + what + ")", x -> x.two(3, 4, 0, what));
        }
        asks(p, "-6 a GODPARENT, a DEAD one.");
        refused(-6, "two(0, 3, 0, 0)", x -> x.two(0, 3, 0, 0));
        refused(-6, "two(3, 1, 0, 1)", x -> x.two(3, 1, 0, 1));
        refused(-6, "two(6, 3, 0, 0)", x -> x.two(6, 3, 0, 0));
        refused(-6, "two(3, 6, 0, 1)", x -> x.two(3, 6, 0, 1));
        refused(-6, "two(2, 6, 0, 0)", x -> x.two(2, 6, 0, 0));
    }

    private void promise25() {
        String p = "Promise 25";
        asks(p, "`int tastes(int child, int given, int kept, int taken)`: TASTES.");
        onlyTold(1023, "tastes(0, 2, 1, 3)", x -> x.tastes(0, 2, 1, 3));
        onlyTold(0, "tastes(0, 2, 0, 3)", x -> x.tastes(0, 2, 0, 3));
        onlyTold(0, "tastes(0, 0, 1, 3)", x -> x.tastes(0, 0, 1, 3));
        onlyTold(0, "tastes(0, 2, 1, 4)", x -> x.tastes(0, 2, 1, 4));
        // Pulls by taste t: 1t, 2t, 3t and 4t; at 0 all are alike.
        due("above 0", plainOf(1).tastes(0, 0, 2, 3), 1022);
        due("at 0", plainOf(1).tastes(0, 2, 0, 3), 1);
        asks(p, "-1 (given up, taken may be NONE).");
        onlyTold(Part::three, 1022, "tastes(0, NONE, 2, NONE)", x -> x.tastes(0, -1, 2, -1));
        onlyTold(Part::three, 1, "tastes(0, NONE, 0, NONE)", x -> x.tastes(0, -1, 0, -1));
        onlyTold(Part::three, 0, "tastes(0, 0, 2, NONE)", x -> x.tastes(0, 0, 2, -1));
        onlyTold(0, "tastes(0, NONE, 1, 3)", x -> x.tastes(0, -1, 1, 3));
        onlyTold(0, "tastes(0, 2, 1, NONE)", x -> x.tastes(0, 2, 1, -1));
        for (int c : NO_CHILD) {
            refused(-1, "tastes(" + c + ", 2, 1, 3)", x -> x.tastes(c, 2, 1, 3));
        }
        for (int g : new int[] {-2, 7, 8, LOW, HIGH}) {
            refused(-1, "tastes(0, " + g + ", 1, 3)", x -> x.tastes(0, g, 1, 3));
            refused(-1, "tastes(0, 2, " + g + ", 3)", x -> x.tastes(0, 2, g, 3));
            refused(-1, "tastes(0, 2, 1, " + g + ")", x -> x.tastes(0, 2, 1, g));
        }
        refused(-1, "tastes(0, 2, NONE, 3)", x -> x.tastes(0, 2, -1, 3));
    }

    private void promise26() {
        String p = "Promise 26";
        asks(p, "`int trades(int what)`: TRADES: how many (what 0), the first (1; NONE).");
        ChosenBackAtNine x = Check.told("grown 0 0 0 2;grown 0 0 0 0;grown 0 0 0 0;grown 0 0 0 9;grown 0 0 0 0",
                "grown 0 0 0 0;child 2 1 0 1 2;child 1 5 3 4 5;gift 1 0 2");
        due("how many", x.trades(0), 1);
        due("the first, of 0 and 1", x.trades(1), 1);
        due("none", small().trades(0), 0);
        due("none first", small().trades(1), -1);
        due("of one child", three().trades(1), -1);
        due("of nobody", new ChosenBackAtNine().trades(0), 0);
        due("of nobody the first", new ChosenBackAtNine().trades(1), -1);
        asks(p, "-15 another what (counted as -5).");
        for (int what : NO_WHAT_OF_TWO) {
            refused(-15, "trades(" + what + ")", y -> y.trades(what));
        }
        refused(ChosenBackAtNine::new, -15, "trades(2) of nobody", y -> y.trades(2));
    }

    private void promise27() {
        String p = "Promise 27";
        asks(p, "`int ahead(int grown, int n, int what)`: AHEAD: CHARGE (what 0), DROPPED (1).");
        // In two years child 1 is nine, in nine child 0: both give up the dead 2.
        int[] years = {0, 1, 2, 8, 9, 20};
        int[] charge = {2, 2, 1, 1, 0, 0};
        int[] dropped = {0, 0, 1, 1, 2, 2};
        for (int i = 0; i < years.length; i++) {
            int n = years[i];
            onlyTold(charge[i], "ahead(2, " + n + ", 0)", x -> x.ahead(2, n, 0));
            onlyTold(dropped[i], "ahead(2, " + n + ", 1)", x -> x.ahead(2, n, 1));
        }
        asks(p, "-1;");
        for (int g : NO_GROWN) {
            refused(-1, "ahead(" + g + ", 0, 0)", x -> x.ahead(g, 0, 0));
        }
        asks(p, "-5 another what;");
        for (int what : NO_WHAT_OF_TWO) {
            refused(-5, "ahead(0, 0, " + what + ")", x -> x.ahead(0, 0, what));
        }
        asks(p, "-6 n.");
        for (int n : new int[] {-1, 21, LOW, HIGH}) {
            refused(-6, "ahead(0, " + n + ", 0)", x -> x.ahead(0, n, 0));
        }
    }

    private static ChosenBackAtNine told(int sort, int... elements) {
        ChosenBackAtNine x = small();
        x.row(0, sort, elements.length);
        for (int i = 0; i < elements.length; i++) {
            x.set(0, i, elements[i]);
        }
        return x;
    }

    private void promise28() {
        String p = "Promise 28";
        asks(p, "`int judge(int s, int child)`: A told BIRTHDAY by the first three elements of the ROW in SHELF s: "
                + "WRONG; NONE.");
        for (int sort = 0; sort <= 3; sort++) {
            due("all so", told(sort, 2, 1, 3).judge(0, 0), -1);
            due("all so, and more", told(sort, 2, 1, 3, 9).judge(0, 0), -1);
            due("not given up", told(sort, 0, 1, 3).judge(0, 0), 0);
            due("not kept", told(sort, 2, 0, 3).judge(0, 0), 1);
            due("not taken", told(sort, 2, 1, 4).judge(0, 0), 2);
            due("the first of two", told(sort, 2, 9, 9).judge(0, 0), 1);
            due("the first of three", told(sort, 9, 9, 9).judge(0, 0), 0);
            due("all so of the other child", told(sort, 2, 3, 4).judge(0, 1), -1);
        }
        onlyTold(0, "judge(6, 0)", x -> x.judge(6, 0));
    }

    private void promise28Refused() {
        String p = "Promise 28";
        asks(p, "-11;");
        for (int s : NO_SHELF) {
            refused(-11, "judge(" + s + ", 0)", x -> x.judge(s, 0));
        }
        for (int c : NO_CHILD) {
            refused(-11, "judge(0, " + c + ")", x -> x.judge(0, c));
        }
        asks(p, "-12;");
        refused(-12, "judge(2, 0)", x -> x.judge(2, 0));
        asks(p, "-13;");
        refused(-13, "judge(3, 0)", x -> x.judge(3, 0));
        asks(p, "-15 fewer elements (counted as -1 to -5).");
        refused(() -> told(0), -15, "judge of none", x -> x.judge(0, 0));
        refused(() -> told(3, 2), -15, "judge of one", x -> x.judge(0, 0));
        refused(() -> told(2, 2, 1), -15, "judge of two", x -> x.judge(0, 0));
        refused(() -> told(2, 9, 9), -15, "judge of two that aren't so", x -> x.judge(0, 0));
    }

    private void promise29() {
        String p = "Promise 29";
        asks(p, "`int ninth(int child)`: NINTH; NONE.");
        onlyTold(9, "ninth(0)", x -> x.ninth(0));
        onlyTold(2, "ninth(1)", x -> x.ninth(1));
        int[] ages = {0, 8, 9, 10, 30};
        int[] want = {9, 1, -1, -1, -1};
        for (int i = 0; i < ages.length; i++) {
            ChosenBackAtNine x = small();
            x.age(1, ages[i]);
            due("of age " + ages[i], x.ninth(1), want[i]);
        }
        asks(p, "-11 (counted as -1).");
        for (int c : NO_CHILD) {
            refused(-11, "ninth(" + c + ")", x -> x.ninth(c));
        }
    }
}
