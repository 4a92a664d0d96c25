/** The Terms, "PULL of a GROWN one on a CHILD": what pulls, and how a child chooses. */
final class OfChoosing extends Part {
    OfChoosing(Sentences sentences) {
        super(sentences);
    }

    @Override
    void ask() {
        pullOfGrown();
        pullOfUncle();
        pullOfMiller();
        pullOfPaying();
        pullOfThief();
        pullOfLender();
        pullOfDead();
        pullIsAtLast0AtLeast();
        givesUpTheLeastOfSeveralTheLast();
        keepsTheGreatestOfSeveralTheFirst();
        takesTheGreatestOfTheOthersOfSeveralTheFirst();
        noneToTakeThenNobodyIsGivenUp();
        behindItTwoStillAndTheOneTaken();
        shoesAreMeansBy5Cut();
        chargeIsOfHowManyChildren();
    }

    /** One grown one ahead of three others, and a child of taste and greed, no godchild of his. */
    private static ChosenBackAtNine one(int kind, int a, int means, int tricks, int taste, int greed) {
        ChosenBackAtNine x = new ChosenBackAtNine();
        x.grown(kind, a, means, tricks);
        for (int i = 0; i < 3; i++) {
            x.grown(0, 0, 0, 0);
        }
        x.child(taste, greed, 1, 2, 3);
        return x;
    }

    /** His pull by so many gifts (none: he may be dead). */
    private static int pull(ChosenBackAtNine x, int gifts) {
        if (gifts > 0) {
            x.gift(0, 0, gifts);
        }
        return x.pull(0, 0, 1);
    }

    private void pullOfGrown() {
        asks(TERMS, "2. PULL of a GROWN one on a CHILD GROWN: LIKING, and TRICKS times TASTE.");
        due("nothing at all", pull(one(0, 9, 60, 0, 9, 9), 0), 0);
        due("tricks without taste", pull(one(0, 9, 60, 9, 0, 9), 0), 0);
        due("tricks 7 by taste 4", pull(one(0, 9, 60, 7, 4, 3), 0), 28);
        due("and 5 gifts by greed 3", pull(one(0, 9, 60, 7, 4, 3), 5), 43);
        due("the most there is", pull(one(0, 9, 60, 9, 9, 9), 20), 180);
    }

    private void pullOfUncle() {
        asks(TERMS, "UNCLE: that, and a.");
        due("a 0", pull(one(1, 0, 60, 7, 4, 3), 5), 43);
        due("a 5", pull(one(1, 5, 60, 7, 4, 3), 5), 48);
        due("the most there is", pull(one(1, 9, 60, 9, 9, 9), 20), 189);
    }

    private void pullOfMiller() {
        asks(TERMS, "MILLER: that of UNCLE, and a third of MEANS (cut), less 2 times DROPPED.");
        due("means 0", pull(one(3, 5, 0, 7, 4, 3), 5), 48);
        due("means 2", pull(one(3, 5, 2, 7, 4, 3), 5), 48);
        due("means 3", pull(one(3, 5, 3, 7, 4, 3), 5), 49);
        due("means 5", pull(one(3, 5, 5, 7, 4, 3), 5), 49);
        due("means 60", pull(one(3, 5, 60, 7, 4, 3), 5), 68);
        ChosenBackAtNine x = dropsMillers();
        due("never dropped", x.pull(0, 2, 1), 5);
        x.choose(0);
        due("dropped once", x.pull(0, 2, 1), 3);
    }

    /** A miller of pull 5 is given up first, one who is paid and pulls 4 is taken: then by turns. */
    private static ChosenBackAtNine dropsMillers() {
        ChosenBackAtNine x = plain(9, 8);
        x.grown(3, 4, 3, 0);
        x.grown(6, 3, 4, 0);
        x.child(9, 1, 0, 1, 2);
        return x;
    }

    private void pullOfPaying() {
        asks(TERMS, "PAYING: as MILLER, but 0, if MEANS are 5 at least.");
        due("means 0", pull(one(6, 5, 0, 7, 4, 3), 5), 48);
        due("means 4", pull(one(6, 5, 4, 7, 4, 3), 5), 49);
        due("means 5", pull(one(6, 5, 5, 7, 4, 3), 5), 0);
        due("means 60", pull(one(6, 5, 60, 7, 4, 3), 5), 0);
        ChosenBackAtNine x = dropsMillers();
        due("never dropped", x.pull(0, 3, 1), 4);
        x.choose(0);
        x.choose(0);
        due("dropped once", x.grownOf(3, 4), 1);
        due("pulls less", x.pull(0, 3, 1), 2);
    }

    private void pullOfThief() {
        asks(TERMS, "THIEF: as GROWN, and 3 times a, if TASTE is above GREED.");
        due("taste above greed", pull(one(2, 5, 60, 7, 4, 3), 5), 58);
        due("taste as greed", pull(one(2, 5, 60, 7, 3, 3), 5), 36);
        due("taste below greed", pull(one(2, 5, 60, 7, 2, 3), 5), 29);
        due("a 0", pull(one(2, 0, 60, 7, 4, 3), 5), 43);
        due("taste 1, greed 0", pull(one(2, 9, 60, 0, 1, 0), 0), 27);
    }

    private void pullOfLender() {
        asks(TERMS, "LENDER: as THIEF, and FLOOD times a.");
        ChosenBackAtNine x = one(5, 5, 60, 7, 4, 3);
        due("without flood", pull(x, 5), 58);
        x.flood(9);
        due("flood 9", pull(x, 0), 103);
        ChosenBackAtNine y = one(5, 5, 60, 7, 3, 3);
        due("taste as greed, without flood", pull(y, 5), 36);
        y.flood(1);
        due("taste as greed, flood 1", pull(y, 0), 41);
        ChosenBackAtNine z = one(5, 0, 60, 7, 4, 3);
        z.flood(9);
        due("a 0, flood 9", pull(z, 5), 43);
    }

    private void pullOfDead() {
        asks(TERMS, "DEAD: LIKING and AGE.");
        ChosenBackAtNine x = one(4, 9, 60, 9, 9, 9);
        due("age 0", pull(x, 0), 0);
        x.age(0, 9);
        due("age 9", pull(x, 0), 9);
        x.age(0, 30);
        due("age 30", pull(x, 0), 30);
        due("nobody's liking of him", x.pull(0, 0, 0), 0);
    }

    private void pullIsAtLast0AtLeast() {
        asks(TERMS, "At last 0 at least.");
        ChosenBackAtNine x = dropsMillers();
        for (int i = 0; i < 5; i++) {
            x.choose(0);
        }
        due("the miller is dropped thrice", x.grownOf(2, 4), 3);
        due("5 less 6", x.pull(0, 2, 1), 0);
        due("the one who is paid is dropped twice", x.grownOf(3, 4), 2);
        due("4 less 4", x.pull(0, 3, 1), 0);
        x.choose(0);
        due("4 less 6", x.pull(0, 3, 1), 0);
    }

    private void givesUpTheLeastOfSeveralTheLast() {
        asks(TERMS, "CHOOSING of a CHILD: of its GODPARENTS it GIVES UP that of the least PULL "
                + "(of several the last by numbers),");
        ChosenBackAtNine x = plain(3, 1, 2, 0, 1, 1, 3);
        x.child(1, 0, 0, 1, 2);
        due("one of the least", x.chooses(0, 0), 1);
        x.child(1, 0, 0, 1, 4);
        due("the last of two", x.chooses(1, 0), 4);
        x.child(1, 0, 5, 4, 1);
        due("the last of three by numbers, not as told", x.chooses(2, 0), 5);
        x.child(1, 0, 6, 0, 1);
        due("one of the least, though others are alike", x.chooses(3, 0), 1);
        due("who pulls still less is none of its three", x.pull(0, 3, 1), 0);
    }

    private void keepsTheGreatestOfSeveralTheFirst() {
        asks(TERMS, "KEEPS that of the greatest (of several the first),");
        ChosenBackAtNine x = plain(3, 1, 2, 9, 1, 1, 3);
        x.child(1, 0, 0, 1, 2);
        due("one of the greatest", x.chooses(0, 1), 0);
        x.child(1, 0, 6, 1, 0);
        due("the first of two", x.chooses(1, 1), 0);
        x.child(1, 0, 5, 4, 1);
        due("the first of three by numbers, not as told", x.chooses(2, 1), 1);
        due("who pulls more is none of its three", x.pull(0, 3, 1), 9);
    }

    private void takesTheGreatestOfTheOthersOfSeveralTheFirst() {
        asks(TERMS, "and of all GROWN ones but its three TAKES that of the greatest (of several the first);");
        ChosenBackAtNine x = plain(3, 9, 2, 5, 7, 7, 0);
        x.child(1, 0, 1, 4, 5);
        due("one of the greatest", x.chooses(0, 2), 3);
        x.child(1, 0, 1, 0, 2);
        due("the first of two", x.chooses(1, 2), 4);
        x.child(0, 0, 0, 1, 3);
        due("the first of all that pull nothing", x.chooses(2, 2), 2);
    }

    private void noneToTakeThenNobodyIsGivenUp() {
        asks(TERMS, "NONE, if there is none: then it GIVES UP nobody.");
        ChosenBackAtNine x = three();
        choice(x, 0, -1, 2, -1);
        x.grown(6, 0, 60, 0);
        choice(x, 0, 0, 2, 3);
    }

    private void behindItTwoStillAndTheOneTaken() {
        asks(TERMS, "Behind it its GODPARENTS are those two it has still and the one it TAKES.");
        ChosenBackAtNine x = plain(3, 1, 2, 5, 4, 0, 0, 9);
        x.child(1, 0, 0, 1, 2);
        choice(x, 0, 1, 0, 7);
        due("choose(0)", x.choose(0), 7);
        due("0, 2 and 7", x.childOf(0, 3), 133);
        ChosenBackAtNine alone = three();
        alone.choose(0);
        due("where nobody is taken: 0, 1 and 2 still", alone.childOf(0, 3), 7);
    }

    private void shoesAreMeansBy5Cut() {
        asks(TERMS, "SHOES: a GROWN one can shoe MEANS by 5 (cut).");
        int[] means = {0, 4, 5, 9, 10, 54, 59, 60};
        int[] shoes = {0, 0, 1, 1, 2, 10, 11, 12};
        ChosenBackAtNine x = new ChosenBackAtNine();
        for (int g = 0; g < means.length; g++) {
            x.grown(g % 7, 0, means[g], 0);
            due("shoes by means " + means[g], x.grownOf(g, 6), shoes[g]);
        }
    }

    private void chargeIsOfHowManyChildren() {
        asks(TERMS, "CHARGE: of how many CHILDREN he is a GODPARENT.");
        ChosenBackAtNine x = plain(0, 0, 0, 0, 0);
        due("without children", x.grownOf(0, 5), 0);
        for (int c = 0; c < 6; c++) {
            x.child(0, 0, 0, c < 3 ? 1 : 2, 3);
        }
        due("of all", x.grownOf(0, 5), 6);
        due("of three", x.grownOf(1, 5), 3);
        due("of the other three", x.grownOf(2, 5), 3);
        due("of none", x.grownOf(4, 5), 0);
    }
}
