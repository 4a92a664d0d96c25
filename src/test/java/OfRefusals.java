/** The Terms: what is refused, in which order, and the details. */
final class OfRefusals extends Part {
    OfRefusals(Sentences sentences) {
        super(sentences);
    }

    @Override
    void ask() {
        theFirstThatFits();
        nobody();
        other();
        nothing();
        below();
        beyond();
        wrong();
        room();
        keptIsToldAlsoWhereNobodyIsTaken();
        suchAChildOfNineChangesNothing();
        pullIs0AtLeastAsAWhole();
        payingPulls0WhateverLikingIs();
        allChooseEachForItself();
        picksByShoesAloneTheDeadToo();
        wooIs0IfItIsSoAlready();
        numbersMayBeginWith0();
        longsCountByTheirLowest32Bits();
        anEmptyRowIsAFaultAt0();
        saysGoesByTheKindAskedFor();
        aJudgedNoneIsMinus1();
        roomIsAskedWhenLettersStandWhole();
    }

    private void theFirstThatFits() {
        asks(TERMS, "REFUSALS (the call answers the number; nothing changes but how many there were; the first that "
                + "fits, in this order):");
        rowsInOrder();
        peopleInOrder();
        tellingInOrder();
    }

    private void rowsInOrder() {
        refused(-1, "row(8, 4, -1)", x -> x.row(8, 4, -1));
        refused(-1, "row(8, 0, 161)", x -> x.row(8, 0, 161));
        refused(-4, "row(0, 4, -1)", x -> x.row(0, 4, -1));
        refused(-6, "row(0, 4, 161)", x -> x.row(0, 4, 161));
        refused(-7, "row(0, 0, 161)", x -> x.row(0, 0, 161));
        refused(-1, "set(8, 9, 1)", x -> x.set(8, 9, 1));
        refused(-2, "set(2, 9, 1)", x -> x.set(2, 9, 1));
        refused(-3, "set(3, 9, 1)", x -> x.set(3, 9, 1));
        refused(-1, "copy(2, 8, -1, -1, -1)", x -> x.copy(2, 8, -1, -1, -1));
        refused(-1, "copy(8, 3, -1, -1, -1)", x -> x.copy(8, 3, -1, -1, -1));
        refused(-2, "copy(3, 2, -1, -1, -1)", x -> x.copy(3, 2, -1, -1, -1));
        refused(-2, "copy(2, 3, -1, -1, -1)", x -> x.copy(2, 3, -1, -1, -1));
        refused(-2, "copy(0, 1, -1, -1, -1)", x -> x.copy(0, 1, -1, -1, -1));
        refused(-3, "copy(0, 3, -1, -1, -1)", x -> x.copy(0, 3, -1, -1, -1));
        refused(-3, "copy(3, 0, -1, -1, -1)", x -> x.copy(3, 0, -1, -1, -1));
        refused(-4, "copy(0, 5, -1, 9, -1)", x -> x.copy(0, 5, -1, 9, -1));
        refused(-1, "says(8, 7)", x -> x.says(8, 7));
        refused(-1, "says(0, 7)", x -> x.says(0, 7));
        refused(-1, "says(3, 7)", x -> x.says(3, 7));
        refused(-1, "parish(8)", x -> x.parish(8));
    }

    private void peopleInOrder() {
        refused(Part::full, -1, "grown(7, 10, 61, 10)", x -> x.grown(7, 10, 61, 10));
        refused(Part::full, -6, "grown(0, 10, 0, 0)", x -> x.grown(0, 10, 0, 0));
        refused(Part::full, -7, "grown(0, 0, 0, 0)", x -> x.grown(0, 0, 0, 0));
        refused(Part::full, -1, "child(10, 0, 1, 1, 8)", x -> x.child(10, 0, 1, 1, 8));
        refused(Part::full, -6, "child(0, 0, 1, 1, 7)", x -> x.child(0, 0, 1, 1, 7));
        refused(Part::full, -6, "child(0, 10, 0, 1, 7)", x -> x.child(0, 10, 0, 1, 7));
        refused(Part::full, -7, "child(0, 0, 0, 1, 7)", x -> x.child(0, 0, 0, 1, 7));
        refused(-1, "age(2, 31)", x -> x.age(2, 31));
        refused(-1, "gift(2, 2, 21)", x -> x.gift(2, 2, 21));
        refused(-1, "gift(0, 7, 21)", x -> x.gift(0, 7, 21));
        refused(-1, "pull(2, 0, 2)", x -> x.pull(2, 0, 2));
        refused(-1, "pull(0, 7, 2)", x -> x.pull(0, 7, 2));
        refused(() -> plain(0, 0, 0), -5, "drawn(0) without children", x -> x.drawn(0));
    }

    private void tellingInOrder() {
        refused(-11, "chooses(2, 3)", x -> x.chooses(2, 3));
        refused(-1, "by(7, 4)", x -> x.by(7, 4));
        refused(-11, "woo(7, 0, 2)", x -> x.woo(7, 0, 2));
        refused(-11, "woo(2, 2, 2)", x -> x.woo(2, 2, 2));
        refused(-15, "woo(2, 0, 2)", x -> x.woo(2, 0, 2));
        refused(-16, "woo(2, 0, 1)", x -> x.woo(2, 0, 1));
        refused(-1, "two(0, 0, 0, 2)", x -> x.two(0, 0, 0, 2));
        refused(-1, "two(0, 7, 0, 2)", x -> x.two(0, 7, 0, 2));
        refused(-1, "two(0, 2, 2, 2)", x -> x.two(0, 2, 2, 2));
        refused(-5, "two(0, 2, 0, 2)", x -> x.two(0, 2, 0, 2));
        refused(-6, "two(0, 2, 0, 1)", x -> x.two(0, 2, 0, 1));
        refused(-1, "ahead(7, 21, 2)", x -> x.ahead(7, 21, 2));
        refused(-5, "ahead(0, 21, 2)", x -> x.ahead(0, 21, 2));
        refused(-11, "judge(2, 2)", x -> x.judge(2, 2));
        refused(-11, "judge(3, 2)", x -> x.judge(3, 2));
        refused(-11, "judge(8, 0)", x -> x.judge(8, 0));
    }

    private void nobody() {
        asks(TERMS, "-1 NOBODY: no such SHELF, GROWN one, CHILD, KIND.");
        refused(-1, "set(8, 0, 1)", x -> x.set(8, 0, 1));
        refused(-1, "by(7, 0)", x -> x.by(7, 0));
        refused(-1, "age(2, 0)", x -> x.age(2, 0));
        refused(-1, "grown(7, 0, 0, 0)", x -> x.grown(7, 0, 0, 0));
    }

    private void other() {
        asks(TERMS, "-2 OTHER: a SHELF that holds a GROWN one where a ROW is wanted, or the other way about, ROWS of "
                + "two SORTS, a GROWN one who isn't of the KIND wanted, or one under it.");
        refused(-2, "set(2, 0, 1)", x -> x.set(2, 0, 1));
        refused(-2, "says(0, 0)", x -> x.says(0, 0));
        refused(-2, "copy(0, 4, 0, 0, 1)", x -> x.copy(0, 4, 0, 0, 1));
        refused(-2, "an uncle as a miller", x -> x.says(2, 3));
        refused(-2, "a lender as an uncle", x -> x.says(7, 1));
        onlyTold(2, "a lender, one under a thief", x -> x.says(7, 2));
    }

    private void nothing() {
        asks(TERMS, "-3 NOTHING: a SHELF that holds NOTHING.");
        refused(-3, "set(3, 0, 1)", x -> x.set(3, 0, 1));
        refused(-3, "says(3, 0)", x -> x.says(3, 0));
        refused(-3, "parish(3)", x -> x.parish(3));
        refused(-13, "judge(3, 0)", x -> x.judge(3, 0));
    }

    private void below() {
        asks(TERMS, "-4 BELOW: a size below 0.");
        refused(-4, "row(0, 0, -1)", x -> x.row(0, 0, -1));
        refused(-4, "copy(0, 5, 0, 0, -1)", x -> x.copy(0, 5, 0, 0, -1));
    }

    private void beyond() {
        asks(TERMS, "-5 BEYOND: an element that isn't there; nothing such to be told of.");
        refused(-5, "set(0, 4, 1)", x -> x.set(0, 4, 1));
        refused(-5, "grownOf(0, 7)", x -> x.grownOf(0, 7));
        refused(-15, "chooses(0, 3)", x -> x.chooses(0, 3));
    }

    private void wrong() {
        asks(TERMS, "-6 WRONG: a number that may not be, a FAULT, what can't be as things stand.");
        refused(-6, "flood(10)", x -> x.flood(10));
        fault("flood 10", 6);
        refused(Part::three, -6, "choose(0) where nobody is to take", x -> x.choose(0));
    }

    private void room() {
        asks(TERMS, "-7 ROOM: more than may be.");
        refused(-7, "row(0, 0, 161)", x -> x.row(0, 0, 161));
        refused(Part::full, -7, "grown(0, 0, 0, 0)", x -> x.grown(0, 0, 0, 0));
        refused(Part::full, -7, "child(0, 0, 0, 1, 2)", x -> x.child(0, 0, 0, 1, 2));
    }

    // ---- details

    private void keptIsToldAlsoWhereNobodyIsTaken() {
        asks(TERMS, "Details. KEPT is told also where nobody is TAKEN;");
        choice(three(), 0, -1, 2, -1);
        due("by(2, 1)", three().by(2, 1), 1);
        due("by(2, 0)", three().by(2, 0), 0);
    }

    private void suchAChildOfNineChangesNothing() {
        asks(TERMS, "such a CHILD of 9 changes nothing.");
        ChosenBackAtNine x = three();
        x.age(0, 8);
        x.years(1);
        due("it is 9", x.childOf(0, 2), 9);
        due("godparents", x.childOf(0, 3), 7);
        due("dropped", x.status(4), 0);
        due("no refusals", Check.allRefusals(x), 0);
    }

    private void pullIs0AtLeastAsAWhole() {
        asks(TERMS, "PULL is 0 at least as a whole;");
        // A miller of 1 and 2, dropped twice: 3 less 4.
        ChosenBackAtNine x = plain(9, 8);
        x.grown(3, 1, 7, 0);
        x.grown(6, 1, 4, 0);
        x.child(9, 1, 0, 1, 2);
        x.choose(0);
        x.choose(0);
        x.choose(0);
        due("dropped", x.grownOf(2, 4), 2);
        due("3 less 4", x.pull(0, 2, 1), 0);
        x.gift(0, 2, 1);
        due("3 less 4 and 1", x.pull(0, 2, 1), 0);
        x.gift(0, 2, 2);
        due("3 less 4 and 3", x.pull(0, 2, 1), 2);
    }

    private void payingPulls0WhateverLikingIs() {
        asks(TERMS, "PAYING has PULL 0 with MEANS of 5 at least, whatever LIKING is.");
        for (int means = 4; means <= 6; means++) {
            ChosenBackAtNine x = plain(0, 0, 0);
            x.grown(6, 9, means, 9);
            x.child(9, 9, 0, 1, 2);
            x.gift(0, 3, 20);
            due("liking", x.pull(0, 3, 0), 99);
            due("pull by means " + means, x.pull(0, 3, 1), means == 4 ? 190 : 0);
        }
    }

    private void allChooseEachForItself() {
        asks(TERMS, "What is told of all CHILDREN who choose is by each for itself, as DROPPED and GODPARENTS are now; "
                + "CHARGE then: when all have chosen so.");
        // The first gives up the miller 2, whom the second takes as he pulls now: 4, not 2.
        ChosenBackAtNine x = Check.told("grown 0 0 0 9;grown 0 0 0 8;grown 3 1 9 0;grown 0 0 0 3;grown 0 0 0 2",
                "child 1 0 0 1 2;child 1 0 0 1 4");
        due("taken by", x.by(2, 2), 2);
        due("given up by", x.by(2, 0), 1);
        due("charge then: one let him go and one took him", x.by(2, 3), 1);
        due("charge then of the other whom the first takes", x.by(3, 3), 1);
        due("charge then of whom the second gives up", x.by(4, 3), 0);
        due("favourite: 2 and 3 are taken by one each", x.favourite(0), 2);
    }

    private void picksByShoesAloneTheDeadToo() {
        asks(TERMS, "PICKS: by SHOES alone; DEAD ones can be picked, and PULL 0 is liked as well, behind others.");
        ChosenBackAtNine x = Check.told("grown 0 0 0 0;grown 0 0 0 0;grown 0 0 0 0;grown 0 0 5 1",
                "child 1 0 0 1 2;child 1 0 1 2 3;child 1 0 1 2 3");
        due("charge is more than shoes", x.grownOf(3, 5), 2);
        due("and yet he can shoe one", x.picks(0), 3);
        ChosenBackAtNine y = Check.told("grown 0 0 0 0;grown 0 0 0 0;grown 0 0 0 0;grown 4 0 5 0;grown 6 0 5 0",
                "grown 0 0 5 1;child 1 0 0 1 2;child 1 0 0 1 2;child 1 0 0 1 2;child 1 0 0 1 2");
        due("one who pulls", y.picks(0), 5);
        due("the dead, who pulls 0", y.picks(1), 3);
        due("one who pays, who pulls 0", y.picks(2), 4);
        due("nobody is left", y.picks(3), -1);
    }

    private void wooIs0IfItIsSoAlready() {
        asks(TERMS, "WOO: 0, if it is so already; where nobody is to TAKE, HOLD is 0.");
        ChosenBackAtNine x = plain(1, 2, 3, 4, 4);
        x.child(1, 0, 0, 1, 2);
        due("taken", x.woo(3, 0, 0), 0);
        due("alike, but not taken", x.woo(4, 0, 0), -1);
        due("kept", x.woo(2, 0, 0), 0);
        due("held", x.woo(1, 0, 1), 0);
        due("given up, and no greed", x.woo(0, 0, 1), -1);
        due("where nobody is to take: of the least pull", three().woo(0, 0, 1), 0);
        due("where nobody is to take: of the greatest", three().woo(2, 0, 1), 0);
    }

    private void numbersMayBeginWith0() {
        asks(TERMS, "Numbers of a text may begin with 0; one that is out of range is a FAULT at its first digit, "
                + "a third digit one at itself.");
        ChosenBackAtNine x = new ChosenBackAtNine();
        items(x, "flood 07", 1);
        due("flood", x.status(2), 7);
        items(x, "flood 00", 1);
        due("flood", x.status(2), 0);
        fault("flood 10", 6);
        fault("grown 0 0 61 0", 10);
        fault("grown 0 0 99 0", 10);
        fault("flood 007", 8);
        fault("flood 090", 8);
        fault("grown 0 0 600 0", 12);
    }

    private void longsCountByTheirLowest32Bits() {
        asks(TERMS, "Elements of a ROW of longs count by their lowest 32 bits wherever a ROW tells numbers or "
                + "letters.");
        ChosenBackAtNine x = plain(3, 1, 2, 9);
        x.child(1, 0, 0, 1, 2);
        long wide = 5L << 32;
        x.row(0, 3, 3);
        x.set(0, 0, 1 + wide);
        x.set(0, 1, wide);
        x.set(0, 2, 3 + Long.MIN_VALUE);
        due("judge of wide numbers", x.judge(0, 0), -1);
        x.set(0, 0, 1 + (1L << 31));
        due("bit 31 counts", x.judge(0, 0), 0);
        Check.putText(x, 1, 3, "flood 1;flood 2");
        for (int i = 0; i < 15; i++) {
            x.set(1, i, x.element(1, i) + wide);
        }
        due("parish of wide letters", x.parish(1), 2);
        x.set(1, 7, ';' + (1L << 31));
        due("bit 31 counts", x.parish(1), -6);
        due("fault", x.fault(), 7);
    }

    private void anEmptyRowIsAFaultAt0() {
        asks(TERMS, "An empty ROW is a FAULT at 0.");
        for (int sort = 0; sort <= 3; sort++) {
            ChosenBackAtNine x = new ChosenBackAtNine();
            x.row(0, sort, 0);
            due("parish of sort " + sort, x.parish(0), -6);
            due("fault", x.fault(), 0);
        }
    }

    private void saysGoesByTheKindAskedFor() {
        asks(TERMS, "What is asked for by says() goes by the KIND asked for.");
        // One who is paid: means 7, a 6, dropped once; a lender: means 8, a 5.
        ChosenBackAtNine x = plain(9, 8);
        x.grown(6, 6, 7, 0);
        x.grown(5, 5, 8, 0);
        x.child(1, 0, 0, 1, 2);
        x.choose(0);
        x.show(0, 2);
        x.show(1, 3);
        due("paid, as grown", x.says(0, 0), 7);
        due("paid, as uncle", x.says(0, 1), 1);
        due("paid, as miller", x.says(0, 3), 1);
        due("paid, as paid", x.says(0, 6), 1);
        due("lender, as grown", x.says(1, 0), 8);
        due("lender, as thief", x.says(1, 2), 5);
        due("lender, as lender", x.says(1, 5), 5);
    }

    private void aJudgedNoneIsMinus1() {
        asks(TERMS, "A JUDGED NONE is -1 in the ROW.");
        // -1, as the lowest bits of each sort tell it.
        long[] none = {255, 65535, 4294967295L, -1};
        for (int sort = 0; sort <= 3; sort++) {
            ChosenBackAtNine x = three();
            x.row(0, sort, 3);
            x.set(0, 0, none[sort]);
            x.set(0, 1, 2);
            x.set(0, 2, none[sort]);
            due("gives up and takes nobody, in sort " + sort, x.judge(0, 0), -1);
            x.set(0, 2, 0);
            due("0 is not nobody", x.judge(0, 0), 2);
            x.set(0, 0, 0);
            due("0 is not nobody given up", x.judge(0, 0), 0);
        }
        ChosenBackAtNine y = three();
        y.row(0, 2, 3);
        y.set(0, 0, 255);
        due("255 is -1 in bytes alone", y.judge(0, 0), 0);
    }

    private void roomIsAskedWhenLettersStandWhole() {
        asks(TERMS, "Whether there is room for a word is asked when its letters stand whole: until then the first "
                + "element that is not as it is the FAULT, or the number of elements.");
        fault(Part::full, "grown", 0);
        fault(Part::full, "growns", 0);
        fault(Part::full, "grown 9", 0);
        fault(Part::full, "grow", 4);
        fault(Part::full, "growx", 4);
        fault(Part::full, "gx", 1);
        fault(Part::full, "child", 0);
        fault(Part::full, "childs", 0);
        fault(Part::full, "chil", 4);
        fault(Part::full, "chilx", 4);
        fault(Part::full, "c", 1);
        fault(Part::full, "flood 1;grow", 12);
        fault(Part::full, "flood 1;grown", 8);
    }
}
