/** The Terms, "WHAT COMES OF IT", as far as nothing is changed. */
final class OfWhatComes extends Part {
    OfWhatComes(Sentences sentences) {
        super(sentences);
    }

    @Override
    void ask() {
        nothingIsChanged();
        takenGivenUpAndKeptBy();
        chargeThen();
        favouriteOfSeveralTheFirst();
        bareOfAllGrownOnes();
        picksOnePerChildNotOfItsThree();
        picksNobodyMoreThanHeCanShoe();
        picksByPullOfSeveralTheFirst();
        picksByLikingOfSeveralTheFirst();
        picksAsTheChildrenLikeMost();
        wooToBeTaken();
        wooToBeKept();
        holdSoThatHeIsNotGivenUp();
        twoUpToAThirdOfTheirMeans();
        twoOfAlikeTheLesserNumber();
        priceOfTheWinner();
        tastesBits0To9();
        tradesEachWouldHaveWhomTheOtherKeeps();
        tradesAreOfUnlike();
        tradesOfNeithersOwnThree();
        tradesOfMorePull();
        tradesHowManyAndTheFirst();
        ahead0To20();
        birthdayTold();
        ninth();
    }

    private void nothingIsChanged() {
        asks(TERMS, "3. WHAT COMES OF IT (nothing is changed)");
        onlyTold(3, "chooses(0, 2)", x -> x.chooses(0, 2));
        onlyTold(1, "by(4, 3)", x -> x.by(4, 3));
        onlyTold(3, "favourite(0)", x -> x.favourite(0));
        onlyTold(0, "favourite(1)", x -> x.favourite(1));
        onlyTold(4, "picks(1)", x -> x.picks(1));
        onlyTold(1, "woo(0, 1, 0)", x -> x.woo(0, 1, 0));
        onlyTold(5, "woo(0, 0, 0)", x -> x.woo(0, 0, 0));
        onlyTold(0, "woo(0, 0, 1)", x -> x.woo(0, 0, 1));
        onlyTold(3, "two(5, 3, 0, 0)", x -> x.two(5, 3, 0, 0));
        onlyTold(0, "two(5, 3, 0, 1)", x -> x.two(5, 3, 0, 1));
        onlyTold(1023, "tastes(0, 2, 1, 3)", x -> x.tastes(0, 2, 1, 3));
        onlyTold(0, "trades(0)", x -> x.trades(0));
        onlyTold(2, "ahead(1, 20, 0)", x -> x.ahead(1, 20, 0));
        onlyTold(2, "ahead(2, 20, 1)", x -> x.ahead(2, 20, 1));
        onlyTold(0, "judge(6, 0)", x -> x.judge(6, 0));
        onlyTold(2, "ninth(1)", x -> x.ninth(1));
    }

    /** The first two choose 3 and 0; the third 4. */
    private static ChosenBackAtNine threeChildren() {
        ChosenBackAtNine x = plain(3, 1, 2, 9, 8, 4);
        x.child(1, 0, 0, 1, 2);
        x.child(1, 0, 3, 4, 5);
        x.child(1, 0, 5, 1, 3);
        return x;
    }

    private void takenGivenUpAndKeptBy() {
        asks(TERMS, "TAKEN by: CHILDREN (bits) who would TAKE one; GIVEN UP by; KEPT by, all choosing now, "
                + "each for itself.");
        ChosenBackAtNine x = threeChildren();
        int[] given = {0, 5, 0, 0, 0, 2};
        int[] kept = {1, 0, 0, 6, 0, 0};
        int[] taken = {2, 0, 0, 1, 4, 0};
        for (int g = 0; g < 6; g++) {
            due("given up by, " + g, x.by(g, 0), given[g]);
            due("kept by, " + g, x.by(g, 1), kept[g]);
            due("taken by, " + g, x.by(g, 2), taken[g]);
        }
        // Were the first to choose ahead of the second, the miller would pull less and not be taken by it.
        ChosenBackAtNine y = Check.told("grown 0 0 0 9;grown 0 0 0 8;grown 3 1 9 0;grown 0 0 0 3;grown 0 0 0 2",
                "child 1 0 0 1 2;child 1 0 0 1 4");
        due("given up by the first", y.by(2, 0), 1);
        due("and taken by the second", y.by(2, 2), 2);
        ChosenBackAtNine all = plain(1, 1, 1, 1);
        for (int c = 0; c < 6; c++) {
            all.child(1, 0, 0, 1, 2);
        }
        due("taken by all six", all.by(3, 2), 63);
        due("given up by all six", all.by(2, 0), 63);
        due("kept by all six", all.by(0, 1), 63);
    }

    private void chargeThen() {
        asks(TERMS, "CHARGE then.");
        ChosenBackAtNine x = threeChildren();
        int[] then = {2, 0, 1, 3, 2, 1};
        for (int g = 0; g < 6; g++) {
            due("charge then of " + g, x.by(g, 3), then[g]);
        }
        due("charge now of 1", x.grownOf(1, 5), 2);
    }

    private void favouriteOfSeveralTheFirst() {
        asks(TERMS, "FAVOURITE: whom most would TAKE, of several the first.");
        ChosenBackAtNine x = plain(3, 1, 2, 9, 8, 4);
        x.child(1, 0, 0, 1, 2);
        due("of one child", x.favourite(0), 3);
        x.child(1, 0, 3, 4, 5);
        due("of two who take 3 and 0", x.favourite(0), 0);
        x.child(1, 0, 5, 1, 0);
        due("of three, two of them for 3", x.favourite(0), 3);
    }

    private void bareOfAllGrownOnes() {
        asks(TERMS, "BARE: how many of all GROWN ones have more CHARGE than SHOES then.");
        // Shoes: 1, 0, 12, 1, 0. The child gives up 2 and takes 3.
        ChosenBackAtNine x = Check.told("grown 0 0 5 9;grown 0 0 4 8;grown 0 0 60 1;grown 0 0 5 7;grown 0 0 4 0",
                "child 1 0 0 1 2");
        due("only 1 has more, 0 and 3 as many", x.favourite(1), 1);
        x.child(1, 0, 0, 2, 4);
        due("0 has two and shoes one, 1 has two", x.favourite(1), 2);
        ChosenBackAtNine dead = Check.told("grown 4 0 4 0;grown 0 0 5 1;grown 0 0 5 2;child 1 0 0 1 2");
        due("the dead are asked too", dead.favourite(1), 1);
    }

    private void picksOnePerChildNotOfItsThree() {
        asks(TERMS, "PICKS none would break: each CHILD is to have one (not of its three),");
        ChosenBackAtNine x = Check.told("grown 0 0 60 9;grown 0 0 60 8;grown 0 0 60 7;child 1 0 0 1 2");
        due("nobody but its three", x.picks(0), -1);
        x.grown(0, 0, 60, 1);
        due("one who pulls less than its three", x.picks(0), 3);
        x.grown(0, 0, 60, 9);
        due("one who pulls more", x.picks(0), 4);
    }

    private void picksNobodyMoreThanHeCanShoe() {
        asks(TERMS, "nobody more than he can shoe;");
        // 3 shoes one, 4 two, 5 none, though 5 pulls most.
        ChosenBackAtNine x = Check.told("grown 0 0 0 0;grown 0 0 0 0;grown 0 0 0 0;grown 0 0 9 5;grown 0 0 10 4",
                "grown 0 0 4 9;child 1 1 0 1 2;child 1 1 0 1 2;child 1 1 0 1 2;child 1 1 0 1 2");
        int[] want = {3, 4, 4, -1};
        for (int c = 0; c < 4; c++) {
            due("picks(" + c + ")", x.picks(c), want[c]);
        }
    }

    private void picksByPullOfSeveralTheFirst() {
        asks(TERMS, "CHILDREN like by PULL (of several the first),");
        ChosenBackAtNine x = Check.told("grown 0 0 0 0;grown 0 0 0 0;grown 0 0 0 0;grown 0 0 5 2;grown 0 0 5 3",
                "grown 0 0 5 3;child 1 1 0 1 2");
        due("the first of two", x.picks(0), 4);
        x.gift(0, 5, 1);
        due("one more by a gift", x.picks(0), 5);
        ChosenBackAtNine y = Check.told("grown 0 0 5 1;grown 0 0 0 0;grown 0 0 0 0;grown 0 0 0 0;grown 0 0 5 1",
                "child 1 1 1 2 3");
        due("the first of all", y.picks(0), 0);
    }

    private void picksByLikingOfSeveralTheFirst() {
        asks(TERMS, "GROWN ones CHILDREN by LIKING (of several the first):");
        ChosenBackAtNine x = Check.told("grown 0 0 0 0;grown 0 0 0 0;grown 0 0 0 0;grown 0 0 5 9",
                "child 1 1 0 1 2;child 9 1 0 1 2;child 1 1 0 1 2");
        due("all like him alike: the first", x.picks(0), 3);
        due("though the second is pulled more", x.picks(1), -1);
        x.gift(1, 3, 1);
        x.gift(2, 3, 1);
        due("out for those who like him", x.picks(0), -1);
        due("the first of these", x.picks(1), 3);
        due("but not the other", x.picks(2), -1);
        x.gift(2, 3, 1);
        due("out for one who likes him more", x.picks(1), -1);
        due("that is", x.picks(2), 3);
    }

    private void picksAsTheChildrenLikeMost() {
        asks(TERMS, "the one by which each CHILD has whom it likes most in any such PICKS: whom one gets; "
                + "NONE: nobody.");
        // 0 is pulled 9 by 3 and 8 by 4, 1 by 2 and 3; 3 is liked by 1 alone, 4 by 0 alone: both ways none breaks.
        ChosenBackAtNine x = Check.told("grown 0 0 0 0;grown 0 0 0 0;grown 0 0 0 0;grown 2 3 5 0;grown 0 0 5 3",
                "child 2 1 0 1 2;child 1 2 0 1 2;gift 0 4 2;gift 1 3 1");
        due("picks(0)", x.picks(0), 3);
        due("picks(1)", x.picks(1), 4);
        // 2 is liked more by 3 than 0 is, 0 more by 4 than 1 is: 0 and 1, though first, go to the next.
        ChosenBackAtNine y = Check.told("grown 0 0 0 0;grown 0 0 0 0;grown 0 0 0 0;grown 0 0 5 9;grown 1 1 5 5",
                "grown 0 0 5 0;child 1 1 0 1 2;child 0 1 0 1 2;child 1 1 0 1 2;gift 2 3 1;gift 0 4 1");
        due("picks(0), its second", y.picks(0), 4);
        due("picks(1), its third", y.picks(1), 5);
        due("picks(2), its first", y.picks(2), 3);
    }

    private void wooToBeTaken() {
        asks(TERMS, "WOO: the least gifts (0 to 20; each is LIKING GREED more, 99 at most) by which one is TAKEN "
                + "by a CHILD");
        ChosenBackAtNine x = plain(2, 4, 3, 9, 5, 9);
        x.child(1, 3, 0, 1, 2);
        due("who is taken already", x.woo(3, 0, 0), 0);
        due("5 and 2 times 3 is more than 9", x.woo(4, 0, 0), 2);
        due("9 and 3 is more than 9: alike the first is taken", x.woo(5, 0, 0), 1);
        ChosenBackAtNine y = plain(0, 0, 0, 0, 0, 0);
        y.child(0, 4, 0, 1, 2);
        y.gift(0, 4, 19);
        due("20 gifts for more than 76", y.woo(5, 0, 0), 20);
        due("19 for alike, being first", y.woo(3, 0, 0), 19);
        y.gift(0, 4, 1);
        due("20 for alike 80, being first", y.woo(3, 0, 0), 20);
        due("21 would be too many", y.woo(5, 0, 0), -1);
        ChosenBackAtNine z = plain(0, 0, 0, 0, 0, 1);
        z.child(1, 9, 0, 1, 2);
        z.gift(0, 4, 11);
        due("11 gifts of 9 are held to 99: alike and first", z.woo(3, 0, 0), 11);
        due("a trick more than 99", z.woo(5, 0, 0), 11);
        z.grown(0, 0, 0, 0);
        due("99 and later", z.woo(6, 0, 0), -1);
    }

    private void wooToBeKept() {
        asks(TERMS, "(KEPT, if he is a GODPARENT); NONE.");
        ChosenBackAtNine x = plain(2, 4, 3, 9);
        x.child(1, 3, 0, 1, 2);
        due("who is kept already", x.woo(1, 0, 0), 0);
        due("2 and 3 is more than 4", x.woo(0, 0, 0), 1);
        due("3 and 3 is more than 4", x.woo(2, 0, 0), 1);
        ChosenBackAtNine y = plain(0, 0, 0, 0);
        y.child(0, 4, 0, 1, 2);
        y.gift(0, 1, 20);
        due("20 gifts for alike 80, being first", y.woo(0, 0, 0), 20);
        due("21 would be too many", y.woo(2, 0, 0), -1);
        due("where nobody is to take, too", three().woo(0, 0, 0), 1);
        ChosenBackAtNine z = plain(1, 2, 1, 9);
        z.child(1, 0, 0, 1, 2);
        due("without greed never", z.woo(0, 0, 0), -1);
    }

    private void holdSoThatHeIsNotGivenUp() {
        asks(TERMS, "HOLD: likewise so that he isn't GIVEN UP.");
        ChosenBackAtNine x = plain(2, 4, 2, 9);
        x.child(1, 3, 0, 1, 2);
        due("who isn't given up", x.woo(0, 0, 1), 0);
        due("who is kept", x.woo(1, 0, 1), 0);
        due("who is given up", x.woo(2, 0, 1), 1);
        ChosenBackAtNine y = plain(0, 0, 0, 0);
        y.child(0, 4, 0, 1, 2);
        y.gift(0, 0, 20);
        y.gift(0, 1, 19);
        due("20 gifts for more than 76: of alike the last is given up", y.woo(2, 0, 1), 20);
        y.gift(0, 1, 1);
        due("21 would be too many", y.woo(2, 0, 1), -1);
        ChosenBackAtNine z = plain(0, 0, 0, 0);
        z.child(0, 4, 0, 1, 2);
        z.gift(0, 1, 20);
        z.gift(0, 2, 20);
        due("20 for alike 80, being first", z.woo(0, 0, 1), 20);
    }

    /** Child 0 of taste 1 and greed 2 is wooed by 3 and 4. */
    private static ChosenBackAtNine wooed(int means3, int tricks3, int means4, int tricks4) {
        ChosenBackAtNine x = plain(0, 0, 0);
        x.grown(0, 0, means3, tricks3);
        x.grown(0, 0, means4, tricks4);
        x.child(1, 2, 0, 1, 2);
        return x;
    }

    private void two(ChosenBackAtNine x, int winner, int price) {
        due("two(3, 4, 0, 0)", x.two(3, 4, 0, 0), winner);
        due("two(4, 3, 0, 0)", x.two(4, 3, 0, 0), winner);
        due("two(3, 4, 0, 1)", x.two(3, 4, 0, 1), price);
        due("two(4, 3, 0, 1)", x.two(4, 3, 0, 1), price);
    }

    private void twoUpToAThirdOfTheirMeans() {
        asks(TERMS, "TWO woo a CHILD (neither its GODPARENT), each up to MEANS by 3 (cut) gifts:");
        two(wooed(2, 0, 0, 1), 4, 0);
        two(wooed(3, 0, 0, 1), 3, 1);
        two(wooed(5, 0, 0, 3), 4, 0);
        two(wooed(60, 0, 57, 3), 4, 19);
        two(wooed(60, 1, 57, 3), 3, 20);
    }

    private void twoOfAlikeTheLesserNumber() {
        asks(TERMS, "who has the greater PULL with all his (of alike the lesser number) wins;");
        two(wooed(6, 2, 9, 0), 3, 2);
        two(wooed(6, 1, 9, 0), 4, 3);
        two(wooed(6, 3, 9, 0), 3, 2);
        two(wooed(0, 0, 0, 0), 3, 0);
    }

    private void priceOfTheWinner() {
        asks(TERMS, "PRICE: the least gifts of his by which he is ahead of the other with all the other's "
                + "(by that rule).");
        two(wooed(0, 4, 60, 0), 4, 3);
        two(wooed(60, 0, 0, 4), 3, 2);
        two(wooed(0, 0, 60, 1), 4, 0);
        two(wooed(60, 0, 0, 0), 3, 0);
        ChosenBackAtNine x = wooed(60, 0, 60, 0);
        two(x, 3, 20);
        // Both like 80 now, and 20 gifts of 2 are held to 99.
        x.gift(0, 4, 20);
        x.gift(0, 4, 20);
        x.gift(0, 3, 20);
        x.gift(0, 3, 20);
        two(x, 3, 10);
    }

    private void tastesBits0To9() {
        asks(TERMS, "TASTES (bits 0 to 9) by which a CHILD would have GIVEN UP, KEPT, TAKEN just told ones, "
                + "all else as it is.");
        // A thief of a 3 pulls 9 on those who taste above greed 4; 4 pulls the taste.
        ChosenBackAtNine x = Check.told("grown 0 0 0 0;grown 0 0 0 1;grown 0 0 0 3;grown 2 3 0 0;grown 0 0 0 1",
                "child 7 4 0 1 2");
        due("all pull nothing: taste 0", x.tastes(0, 2, 0, 3), 1);
        due("the plain one: tastes 1 to 4", x.tastes(0, 0, 2, 4), 30);
        due("the thief: tastes 5 to 9", x.tastes(0, 0, 2, 3), 992);
        due("one that is never so", x.tastes(0, 1, 2, 3), 0);
        due("two of three are not enough", x.tastes(0, 0, 2, 1), 0);
        due("its taste is still 7", x.childOf(0, 0), 7);
        ChosenBackAtNine y = plain(1, 1, 1, 0);
        y.child(5, 1, 0, 1, 2);
        due("by all tastes", y.tastes(0, 2, 0, 3), 1023);
        y.gift(0, 1, 1);
        due("by liking as it is", y.tastes(0, 2, 1, 3), 1023);
    }

    private void tradesEachWouldHaveWhomTheOtherKeeps() {
        asks(TERMS, "TRADE of two CHILDREN: each would have whom the other KEEPS:");
        // 0 keeps 0 (4) and is pulled 18 by 3; 1 keeps 3 (9) and is pulled 12 by 0.
        ChosenBackAtNine x = Check.told("grown 0 0 0 2;grown 0 0 0 0;grown 0 0 0 0;grown 0 0 0 9;grown 0 0 0 0",
                "grown 0 0 0 0;child 2 1 0 1 2;child 1 5 3 4 5");
        due("only one would", x.trades(0), 0);
        x.gift(1, 0, 2);
        due("both would", x.trades(0), 1);
        due("as they keep", 10 * x.chooses(0, 1) + x.chooses(1, 1), 3);
    }

    private void tradesAreOfUnlike() {
        asks(TERMS, "these are unlike,");
        ChosenBackAtNine x = plain(9, 1, 2, 3);
        x.child(1, 0, 0, 1, 2);
        x.child(1, 0, 0, 1, 3);
        due("both keep 0", x.chooses(0, 1) + x.chooses(1, 1), 0);
        due("no trade", x.trades(0), 0);
    }

    private void tradesOfNeithersOwnThree() {
        asks(TERMS, "neither is of the other CHILD's own three,");
        ChosenBackAtNine x = Check.told("grown 0 0 0 2;grown 0 0 0 0;grown 0 0 0 0;grown 0 0 0 9;grown 0 0 0 0",
                "child 2 1 0 1 2;child 1 5 3 4 0;gift 0 3 1");
        due("0 is of the other's three", x.trades(0), 0);
    }

    private void tradesOfMorePull() {
        asks(TERMS, "and each CHILD has more PULL of the other's than of its own;");
        String grown = "grown 0 0 0 2;grown 0 0 0 0;grown 0 0 0 0;grown 0 0 0 9;grown 0 0 0 0;grown 0 0 0 0";
        ChosenBackAtNine alike = Check.told(grown, "child 2 1 0 1 2;child 1 7 3 4 5;gift 1 0 1");
        due("9 and 9", alike.pull(1, 0, 1) * 10 + alike.pull(1, 3, 1), 99);
        due("alike is not more", alike.trades(0), 0);
        ChosenBackAtNine first = Check.told(grown, "child 1 7 3 4 5;child 2 1 0 1 2;gift 0 0 1");
        due("alike is not more for the first, too", first.trades(0), 0);
        ChosenBackAtNine more = Check.told(grown, "child 2 1 0 1 2;child 1 8 3 4 5;gift 1 0 1");
        due("10 and 9", more.pull(1, 0, 1) * 10 + more.pull(1, 3, 1), 109);
        due("is more", more.trades(0), 1);
        ChosenBackAtNine turned = Check.told(grown, "child 1 8 3 4 5;child 2 1 0 1 2;gift 0 0 1");
        due("whichever is the first", turned.trades(0), 1);
    }

    private void tradesHowManyAndTheFirst() {
        asks(TERMS, "how many TRADES; the first (10 times the lesser and the other); NONE.");
        // 2 keeps 3 and would have 0; 1 and 3 keep 0 and would have 3.
        ChosenBackAtNine x = Check.told("grown 0 0 0 2;grown 0 0 0 0;grown 0 0 0 0;grown 0 0 0 9;grown 0 0 0 0",
                "grown 0 0 0 0;child 0 0 1 2 3;child 2 1 0 1 2");
        due("none yet", x.trades(0), 0);
        due("none first", x.trades(1), -1);
        x.child(1, 5, 3, 4, 5);
        x.gift(2, 0, 2);
        due("one", x.trades(0), 1);
        x.child(2, 1, 0, 1, 4);
        due("two", x.trades(0), 2);
        due("the first", x.trades(1), 12);
        ChosenBackAtNine last = Check.told("grown 0 0 0 2;grown 0 0 0 0;grown 0 0 0 0;grown 0 0 0 9;grown 0 0 0 0",
                "grown 0 0 0 0;child 0 0 1 2 3;child 0 0 1 2 3;child 0 0 1 2 3;child 0 0 1 2 3",
                "child 2 1 0 1 2;child 1 5 3 4 5;gift 5 0 2");
        due("of the last two", last.trades(1), 45);
    }

    private void ahead0To20() {
        asks(TERMS, "AHEAD n YEARS (0 to 20) in thought: CHARGE of one then; how often he is DROPPED by then.");
        // At nine its own pull 10, 3, 3 and 3 pulls 5.
        ChosenBackAtNine x = plain(4, 0, 0, 5);
        x.child(1, 0, 0, 1, 2);
        x.age(0, 6);
        due("charge as it is", x.ahead(2, 0, 0), 1);
        due("charge a year too early", x.ahead(2, 2, 0), 1);
        due("dropped a year too early", x.ahead(2, 2, 1), 0);
        due("charge then", x.ahead(2, 3, 0), 0);
        due("dropped then", x.ahead(2, 3, 1), 1);
        due("charge of the one taken", x.ahead(3, 20, 0), 1);
        due("dropped in 20 years", x.ahead(2, 20, 1), 1);
        due("-1 year", x.ahead(2, -1, 0), -6);
        due("21 years", x.ahead(2, 21, 0), -6);
        due("only in thought", x.status(3) + x.status(4) + x.status(5), 0);
        x.years(3);
        due("dropped as it is", x.ahead(2, 0, 1), 1);
        ChosenBackAtNine y = plain(4, 0, 0, 5);
        y.child(1, 0, 0, 1, 2);
        due("not taken in 8 years", y.ahead(3, 8, 0), 0);
        due("taken in 9", y.ahead(3, 9, 0), 1);
    }

    private void birthdayTold() {
        asks(TERMS, "A told BIRTHDAY of a CHILD: a ROW of three (given up, kept, taken): which (0, 1, 2) is the first "
                + "that isn't so; NONE.");
        // It gives up 1, keeps 0, takes 3.
        int[][] told = {{1, 0, 3, -1}, {2, 0, 3, 0}, {1, 2, 3, 1}, {1, 0, 2, 2}, {2, 2, 2, 0}, {1, 2, 2, 1}};
        ChosenBackAtNine x = plain(3, 1, 2, 9);
        x.child(1, 0, 0, 1, 2);
        x.row(0, 0, 3);
        for (int[] row : told) {
            for (int i = 0; i < 3; i++) {
                x.set(0, i, row[i]);
            }
            due("judge of " + row[0] + ", " + row[1] + ", " + row[2], x.judge(0, 0), row[3]);
        }
    }

    private void ninth() {
        asks(TERMS, "NINTH: in how many YEARS a CHILD will be 9; NONE: it is or was.");
        ChosenBackAtNine x = three();
        int[] ages = {0, 1, 8, 9, 10, 30};
        int[] want = {9, 8, 1, -1, -1, -1};
        for (int i = 0; i < ages.length; i++) {
            x.age(0, ages[i]);
            due("of age " + ages[i], x.ninth(0), want[i]);
        }
    }
}
