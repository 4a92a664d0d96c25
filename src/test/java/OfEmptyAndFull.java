/** Every call where nobody is yet, and where as many are as there may be. */
final class OfEmptyAndFull extends Part {
    private static final int CHILD = 5;

    OfEmptyAndFull(Sentences sentences) {
        super(sentences);
    }

    @Override
    void ask() {
        nobodyToAsk();
        nobodyToTell();
        eightGrownOnes();
        sixChildren();
        sixChildrenTold();
        sixChildrenInYears();
    }

    private void nobodyToAsk() {
        asks("Promise 1", "Nobody.");
        refused(ChosenBackAtNine::new, -1, "child(0, 0, 0, 1, 2)", x -> x.child(0, 0, 0, 1, 2));
        refused(ChosenBackAtNine::new, -1, "age(0, 0)", x -> x.age(0, 0));
        refused(ChosenBackAtNine::new, -1, "gift(0, 0, 0)", x -> x.gift(0, 0, 0));
        refused(ChosenBackAtNine::new, -5, "grownOf(0, 0)", x -> x.grownOf(0, 0));
        refused(ChosenBackAtNine::new, -5, "childOf(0, 0)", x -> x.childOf(0, 0));
        refused(ChosenBackAtNine::new, -1, "pull(0, 0, 0)", x -> x.pull(0, 0, 0));
        refused(ChosenBackAtNine::new, -1, "show(0, 0)", x -> x.show(0, 0));
        refused(ChosenBackAtNine::new, -3, "says(0, 0)", x -> x.says(0, 0));
        refused(ChosenBackAtNine::new, -3, "parish(0)", x -> x.parish(0));
        refused(ChosenBackAtNine::new, -1, "choose(0)", x -> x.choose(0));
        refused(ChosenBackAtNine::new, -5, "drawn(1)", x -> x.drawn(1));
        refused(ChosenBackAtNine::new, -6, "restore()", x -> x.restore());
        onlyTold(ChosenBackAtNine::new, 0, "show(0, NONE)", x -> x.show(0, -1));
        onlyTold(ChosenBackAtNine::new, 0, "act(0, 0, 1)", x -> x.act(0, 0, 1));
        ChosenBackAtNine x = new ChosenBackAtNine();
        due("image()", x.image(), 0);
        due("years(40)", x.years(40), 40);
        due("restore()", x.restore(), 0);
        due("year", x.status(3), 0);
    }

    private void nobodyToTell() {
        asks("Promise 1", "Nobody.");
        refused(ChosenBackAtNine::new, -11, "chooses(0, 0)", x -> x.chooses(0, 0));
        refused(ChosenBackAtNine::new, -1, "by(0, 0)", x -> x.by(0, 0));
        onlyTold(ChosenBackAtNine::new, -1, "favourite(0)", x -> x.favourite(0));
        onlyTold(ChosenBackAtNine::new, 0, "favourite(1)", x -> x.favourite(1));
        refused(ChosenBackAtNine::new, -11, "picks(0)", x -> x.picks(0));
        refused(ChosenBackAtNine::new, -11, "woo(0, 0, 0)", x -> x.woo(0, 0, 0));
        refused(ChosenBackAtNine::new, -1, "two(0, 1, 0, 0)", x -> x.two(0, 1, 0, 0));
        refused(ChosenBackAtNine::new, -1, "tastes(0, 0, 0, 0)", x -> x.tastes(0, 0, 0, 0));
        onlyTold(ChosenBackAtNine::new, 0, "trades(0)", x -> x.trades(0));
        onlyTold(ChosenBackAtNine::new, -1, "trades(1)", x -> x.trades(1));
        refused(ChosenBackAtNine::new, -1, "ahead(0, 0, 0)", x -> x.ahead(0, 0, 0));
        refused(ChosenBackAtNine::new, -11, "judge(0, 0)", x -> x.judge(0, 0));
        refused(ChosenBackAtNine::new, -11, "ninth(0)", x -> x.ninth(0));
    }

    // In the full parish child c has taste c and c, c + 1, c + 2; number g pulls c times g on it.

    private void eightGrownOnes() {
        asks(TERMS, "8 at most,");
        ChosenBackAtNine x = full();
        int[] given = {0, 2, 5, 8, 16, 32, 0, 0};
        int[] kept = {1, 0, 0, 2, 4, 8, 16, 32};
        int[] taken = {0, 0, 0, 1, 32, 0, 0, 30};
        int[] then = {1, 1, 1, 3, 3, 2, 2, 5};
        int[] charge = {1, 2, 3, 3, 3, 3, 2, 1};
        for (int g = 0; g < 8; g++) {
            due("by(" + g + ", 0)", x.by(g, 0), given[g]);
            due("by(" + g + ", 1)", x.by(g, 1), kept[g]);
            due("by(" + g + ", 2)", x.by(g, 2), taken[g]);
            due("by(" + g + ", 3)", x.by(g, 3), then[g]);
            due("grownOf(" + g + ", 5)", x.grownOf(g, 5), charge[g]);
            due("act(" + g + ", 0, 1)", x.act(g, 0, 1), 1 + g);
        }
        due("favourite(0)", x.favourite(0), 7);
        due("favourite(1)", x.favourite(1), 8);
        due("image()", x.image(), 8);
        due("restore()", x.restore(), 8);
        due("show(7, 7)", x.show(7, 7), 1);
        due("says(7, 0)", x.says(7, 0), 0);
    }

    private void sixChildren() {
        asks(TERMS, "6 at most:");
        int[][] want = {{2, 0, 3}, {1, 3, 7}, {2, 4, 7}, {3, 5, 7}, {4, 6, 7}, {5, 7, 4}};
        for (int c = 0; c < 6; c++) {
            choice(full(), c, want[c][0], want[c][1], want[c][2]);
        }
        ChosenBackAtNine x = full();
        due("pull of the last on the last", x.pull(CHILD, 7, 1), 35);
        due("a gift of the last to the last", x.gift(CHILD, 7, 20), 20);
        due("liking together", x.status(5), 20);
        due("age of the last", x.age(CHILD, 30), 0);
        due("it is", x.childOf(CHILD, 2), 30);
        due("the last chooses", x.choose(CHILD), 4);
        due("its godparents", x.childOf(CHILD, 3), 208);
        due("dropped together", x.status(4), 1);
        items(x, "gift 5 6 1;age 5 29", 2);
        due("told liking", x.pull(CHILD, 6, 0), 1);
        due("told age", x.childOf(CHILD, 2), 29);
    }

    private void sixChildrenTold() {
        asks(TERMS, "6 at most:");
        ChosenBackAtNine x = full();
        due("to be kept: 30 and 5 for alike 35, being first", x.woo(6, CHILD, 0), 5);
        due("to be taken: 15 and 5 for alike 20, being first", x.woo(3, CHILD, 0), 5);
        due("to be held: 25 and 5 for alike 30, being first", x.woo(5, CHILD, 1), 5);
        due("who wins of two", x.two(0, 4, CHILD, 0), 4);
        due("the price", x.two(0, 4, CHILD, 1), 0);
        due("tastes", x.tastes(CHILD, 5, 7, 4), 1022);
        due("trades", x.trades(0), 0);
        due("ninth", x.ninth(CHILD), 9);
        x.row(0, 0, 3);
        x.set(0, 0, 5);
        x.set(0, 1, 7);
        x.set(0, 2, 4);
        due("judge", x.judge(0, CHILD), -1);
        due("nobody can shoe the last", x.picks(CHILD), -1);
        // Each shoes one and likes the first: 1 has 7, 2 then 6, 3 then 2, 4 then 1; 0 has 3 by number, 5 has 4.
        int[] want = {3, 7, 6, 2, 1, 4};
        for (int c = 0; c < 6; c++) {
            due("picks(" + c + ")", fullOfShoes().picks(c), want[c]);
        }
    }

    private static ChosenBackAtNine fullOfShoes() {
        ChosenBackAtNine x = new ChosenBackAtNine();
        for (int g = 0; g < 8; g++) {
            x.grown(0, 0, 5, g);
        }
        for (int c = 0; c < 6; c++) {
            x.child(c, 1, c, c + 1, c + 2);
        }
        return x;
    }

    private void sixChildrenInYears() {
        asks(TERMS, "6 at most:");
        ChosenBackAtNine x = full();
        due("7 in nine years: charge", x.ahead(7, 9, 0), 5);
        due("2 in nine years: dropped", x.ahead(2, 9, 1), 2);
        x.years(1);
        due("liking together after a year", x.status(5), 27);
        due("age of the last", x.childOf(CHILD, 2), 1);
        due("year", x.years(40), 41);
        due("each has chosen once", x.status(4), 6);
        // By SEED 1: 16838 (6 of eight), 38526 (0 of six), 10113 (no more than one gift).
        ChosenBackAtNine y = full();
        due("drawn(1)", y.drawn(1), 0);
        due("the drawn gift", y.pull(0, 6, 0), 1);
        due("liking together", y.status(5), 28);
        // By SEED 5: 18655 (7 of eight), 41225 (5 of six), 10616 (three gifts).
        ChosenBackAtNine z = full();
        z.seed(5);
        due("drawn(1)", z.drawn(1), 0);
        due("the drawn gifts of the last to the last, whose godparent he is", z.pull(CHILD, 7, 0), 5);
    }
}
