/** The Terms, "THE PARISH": who may be there, and how a parish is read from a text. */
final class OfTheParish extends Part {
    OfTheParish(Sentences sentences) {
        super(sentences);
    }

    @Override
    void ask() {
        grownOnesAreEightAtMost();
        kindsAreUnderKinds();
        aIs0To9();
        meansAre0To60();
        tricksAre0To9();
        droppedIs0To99AndAtFirst0();
        childrenAreSixAtMost();
        tasteIs0To9();
        greedIs0To9();
        ageIs0To30AndAtFirst0();
        godparentsAreThreeAllUnlike();
        likingIs0To99AndAtFirst0();
        floodIs0To9AndAtFirst0();
        yearIsAtFirst0();
        itemsAndSemicolons();
        textOfGrown();
        textOfChild();
        textOfGift();
        textOfAge();
        textOfFlood();
        oneBlankAndOneToTwoDigits();
        allIsToldOverWhatThereIsOrNothing();
        noRoomIsTheWordOnceItIsWhole();
        theFaultIsTheFirstPlaceThatCannotStand();
        endedTooEarlyIsTheNumberOfElements();
        aNumberThatMayNotBeIsItsFirstDigit();
    }

    private void grownOnesAreEightAtMost() {
        asks(TERMS, "1. THE PARISH GROWN ones have numbers, from 0 on, 8 at most,");
        ChosenBackAtNine x = new ChosenBackAtNine();
        for (int g = 0; g < 8; g++) {
            due("how many ahead of number " + g, x.status(0), g);
            due("number " + g, x.grown(0, 0, 0, 0), g);
        }
        due("a ninth", x.grown(0, 0, 0, 0), -7);
        due("how many", x.status(0), 8);
        due("number 7 is there", x.grownOf(7, 0), 0);
        due("number 8 isn't", x.grownOf(8, 0), -5);
    }

    private void kindsAreUnderKinds() {
        asks(TERMS, "each of a KIND: 0 GROWN; 1 UNCLE, 2 THIEF, 4 DEAD, each under GROWN; 3 MILLER, under UNCLE; "
                + "5 LENDER, under THIEF; 6 PAYING, under MILLER;");
        ChosenBackAtNine x = new ChosenBackAtNine();
        String[] under = {"0", "01", "02", "013", "04", "025", "0136"};
        for (int kind = 0; kind <= 6; kind++) {
            due("grown of kind " + kind, x.grown(kind, 0, 0, 0), kind);
            due("its kind", x.grownOf(kind, 0), kind);
            x.show(0, kind);
            for (int wanted = 0; wanted <= 6; wanted++) {
                int want = under[kind].indexOf('0' + wanted) >= 0 ? 0 : -2;
                due("kind " + kind + " as kind " + wanted, x.says(0, wanted), want);
            }
        }
        due("no kind 7", x.grown(7, 0, 0, 0), -1);
        due("no kind -1", x.grown(-1, 0, 0, 0), -1);
    }

    private void aIs0To9() {
        asks(TERMS, "a (0 to 9),");
        ChosenBackAtNine x = new ChosenBackAtNine();
        due("a 0", x.grown(2, 0, 1, 1), 0);
        due("a 0 is", x.grownOf(0, 1), 0);
        due("a 9", x.grown(2, 9, 1, 1), 1);
        due("a 9 is", x.grownOf(1, 1), 9);
        refused(-6, "grown(2, -1, 1, 1)", y -> y.grown(2, -1, 1, 1));
        refused(-6, "grown(2, 10, 1, 1)", y -> y.grown(2, 10, 1, 1));
        refused(-6, "grown(2, LOW, 1, 1)", y -> y.grown(2, LOW, 1, 1));
        refused(-6, "grown(2, HIGH, 1, 1)", y -> y.grown(2, HIGH, 1, 1));
    }

    private void meansAre0To60() {
        asks(TERMS, "MEANS (0 to 60),");
        ChosenBackAtNine x = new ChosenBackAtNine();
        due("means 0", x.grown(2, 1, 0, 1), 0);
        due("means 0 are", x.grownOf(0, 2), 0);
        due("means 60", x.grown(2, 1, 60, 1), 1);
        due("means 60 are", x.grownOf(1, 2), 60);
        refused(-6, "grown(2, 1, -1, 1)", y -> y.grown(2, 1, -1, 1));
        refused(-6, "grown(2, 1, 61, 1)", y -> y.grown(2, 1, 61, 1));
        refused(-6, "grown(2, 1, LOW, 1)", y -> y.grown(2, 1, LOW, 1));
        refused(-6, "grown(2, 1, HIGH, 1)", y -> y.grown(2, 1, HIGH, 1));
    }

    private void tricksAre0To9() {
        asks(TERMS, "TRICKS (0 to 9),");
        ChosenBackAtNine x = new ChosenBackAtNine();
        due("tricks 0", x.grown(2, 1, 1, 0), 0);
        due("tricks 0 are", x.grownOf(0, 3), 0);
        due("tricks 9", x.grown(2, 1, 1, 9), 1);
        due("tricks 9 are", x.grownOf(1, 3), 9);
        refused(-6, "grown(2, 1, 1, -1)", y -> y.grown(2, 1, 1, -1));
        refused(-6, "grown(2, 1, 1, 10)", y -> y.grown(2, 1, 1, 10));
        refused(-6, "grown(2, 1, 1, LOW)", y -> y.grown(2, 1, 1, LOW));
        refused(-6, "grown(2, 1, 1, HIGH)", y -> y.grown(2, 1, 1, HIGH));
    }

    private void droppedIs0To99AndAtFirst0() {
        asks(TERMS, "DROPPED (how often, 0 to 99; 0 at first).");
        // 2 and 3 are given up by turns: 2 by the first choice, the third, and so on.
        ChosenBackAtNine x = plain(9, 9, 0, 0);
        x.child(1, 0, 0, 1, 2);
        due("dropped at first", x.grownOf(2, 4), 0);
        x.choose(0);
        due("dropped once", x.grownOf(2, 4), 1);
        for (int i = 2; i <= 196; i++) {
            x.choose(0);
        }
        due("dropped 98 times", x.grownOf(2, 4), 98);
        x.choose(0);
        due("dropped 99 times", x.grownOf(2, 4), 99);
        x.choose(0);
        due("given up once more", x.choose(0), 3);
        due("and yet 99", x.grownOf(2, 4), 99);
        due("the others never", x.grownOf(0, 4) + x.grownOf(1, 4), 0);
    }

    private void childrenAreSixAtMost() {
        asks(TERMS, "CHILDREN have numbers, from 0 on, 6 at most:");
        ChosenBackAtNine x = plain(1, 2, 3);
        for (int c = 0; c < 6; c++) {
            due("how many ahead of number " + c, x.status(1), c);
            due("number " + c, x.child(0, 0, 0, 1, 2), c);
        }
        due("a seventh", x.child(0, 0, 0, 1, 2), -7);
        due("how many", x.status(1), 6);
        due("number 5 is there", x.childOf(5, 3), 7);
        due("number 6 isn't", x.childOf(6, 3), -5);
    }

    private void tasteIs0To9() {
        asks(TERMS, "TASTE (0 to 9: for tricks),");
        ChosenBackAtNine x = plain(9, 2, 3);
        due("taste 0", x.child(0, 5, 0, 1, 2), 0);
        due("taste 0 is", x.childOf(0, 0), 0);
        due("no tricks please it", x.pull(0, 0, 1), 0);
        due("taste 9", x.child(9, 5, 0, 1, 2), 1);
        due("taste 9 is", x.childOf(1, 0), 9);
        due("tricks please it", x.pull(1, 0, 1), 81);
        refused(-6, "child(-1, 5, 0, 1, 2)", y -> y.child(-1, 5, 0, 1, 2));
        refused(-6, "child(10, 5, 0, 1, 2)", y -> y.child(10, 5, 0, 1, 2));
        refused(-6, "child(LOW, 5, 0, 1, 2)", y -> y.child(LOW, 5, 0, 1, 2));
        refused(-6, "child(HIGH, 5, 0, 1, 2)", y -> y.child(HIGH, 5, 0, 1, 2));
    }

    private void greedIs0To9() {
        asks(TERMS, "GREED (0 to 9: for gifts),");
        ChosenBackAtNine x = plain(1, 2, 3);
        due("greed 0", x.child(5, 0, 0, 1, 2), 0);
        due("greed 0 is", x.childOf(0, 1), 0);
        due("no gifts please it", x.gift(0, 0, 20), 0);
        due("greed 9", x.child(5, 9, 0, 1, 2), 1);
        due("greed 9 is", x.childOf(1, 1), 9);
        due("gifts please it", x.gift(1, 0, 2), 18);
        refused(-6, "child(5, -1, 0, 1, 2)", y -> y.child(5, -1, 0, 1, 2));
        refused(-6, "child(5, 10, 0, 1, 2)", y -> y.child(5, 10, 0, 1, 2));
        refused(-6, "child(5, LOW, 0, 1, 2)", y -> y.child(5, LOW, 0, 1, 2));
        refused(-6, "child(5, HIGH, 0, 1, 2)", y -> y.child(5, HIGH, 0, 1, 2));
    }

    private void ageIs0To30AndAtFirst0() {
        asks(TERMS, "AGE (0 to 30; 0 at first),");
        ChosenBackAtNine x = three();
        due("age at first", x.childOf(0, 2), 0);
        due("age 30", x.age(0, 30), 0);
        due("age 30 is", x.childOf(0, 2), 30);
        due("age 0", x.age(0, 0), 30);
        due("age 0 is", x.childOf(0, 2), 0);
        refused(-6, "age(0, -1)", y -> y.age(0, -1));
        refused(-6, "age(0, 31)", y -> y.age(0, 31));
        refused(-6, "age(0, LOW)", y -> y.age(0, LOW));
        refused(-6, "age(0, HIGH)", y -> y.age(0, HIGH));
    }

    private void godparentsAreThreeAllUnlike() {
        asks(TERMS, "three GODPARENTS (GROWN ones, all unlike),");
        ChosenBackAtNine x = plain(0, 0, 0, 0, 0, 0, 0, 0);
        due("the first three", x.child(0, 0, 0, 1, 2), 0);
        due("are", x.childOf(0, 3), 7);
        due("the last three, turned", x.child(0, 0, 7, 6, 5), 1);
        due("are those", x.childOf(1, 3), 224);
        refused(-6, "child(1, 1, 3, 3, 4)", y -> y.child(1, 1, 3, 3, 4));
        refused(-6, "child(1, 1, 3, 4, 3)", y -> y.child(1, 1, 3, 4, 3));
        refused(-6, "child(1, 1, 4, 3, 3)", y -> y.child(1, 1, 4, 3, 3));
        refused(-6, "child(1, 1, 0, 0, 0)", y -> y.child(1, 1, 0, 0, 0));
    }

    private void likingIs0To99AndAtFirst0() {
        asks(TERMS, "LIKING of each GROWN one (0 to 99; 0 at first).");
        ChosenBackAtNine x = plain(0, 0, 0, 0);
        x.child(0, 7, 0, 1, 2);
        for (int g = 0; g < 4; g++) {
            due("liking of " + g + " at first", x.pull(0, g, 0), 0);
        }
        due("98", x.gift(0, 3, 14), 98);
        due("99 and no more", x.gift(0, 3, 1), 99);
        due("99 still", x.gift(0, 3, 20), 99);
        due("of the others nothing", x.status(5), 99);
        x.grown(0, 0, 0, 0);
        due("liking of one who comes later", x.pull(0, 4, 0), 0);
        x.child(1, 1, 0, 1, 2);
        due("liking by one who comes later", x.pull(1, 3, 0), 0);
    }

    private void floodIs0To9AndAtFirst0() {
        asks(TERMS, "FLOOD (0 to 9; 0 at first).");
        ChosenBackAtNine x = new ChosenBackAtNine();
        due("flood at first", x.status(2), 0);
        due("flood 9", x.flood(9), 0);
        due("flood 0", x.flood(0), 9);
        refused(-6, "flood(-1)", y -> y.flood(-1));
        refused(-6, "flood(10)", y -> y.flood(10));
        refused(-6, "flood(LOW)", y -> y.flood(LOW));
        refused(-6, "flood(HIGH)", y -> y.flood(HIGH));
    }

    private void yearIsAtFirst0() {
        asks(TERMS, "YEAR (0 at first).");
        ChosenBackAtNine x = new ChosenBackAtNine();
        due("year at first", x.status(3), 0);
        due("year then", x.years(1), 1);
    }

    // ---- texts

    private void itemsAndSemicolons() {
        asks(TERMS, "A PARISH is read from a ROW of letters: ITEM, then any number of times ; and ITEM:");
        items(new ChosenBackAtNine(), "flood 1", 1);
        items(new ChosenBackAtNine(), "flood 1;flood 2", 2);
        // 19 items of eight letters each with its ; and one of eight: as long as a row can be.
        String longest = "flood 1;".repeat(19) + "flood 02";
        due("letters of the longest", longest.length(), 160);
        ChosenBackAtNine x = new ChosenBackAtNine();
        items(x, longest, 20);
        due("the last item is told", x.status(2), 2);
        fault(";flood 1", 0);
        fault("flood 1;;flood 2", 8);
        fault("flood 1,flood 2", 7);
        fault("flood 1 ;flood 2", 7);
        fault("flood 1; flood 2", 8);
    }

    private void textOfGrown() {
        asks(TERMS, "grown K A M T;");
        ChosenBackAtNine x = new ChosenBackAtNine();
        items(x, "grown 0 0 0 0;grown 6 9 60 8", 2);
        int[] least = {0, 0, 0, 0};
        int[] most = {6, 9, 60, 8};
        for (int what = 0; what < 4; what++) {
            due("of the first, " + what, x.grownOf(0, what), least[what]);
            due("of the second, " + what, x.grownOf(1, what), most[what]);
        }
        fault("grown 7 9 60 9", 6);
        fault("grown 6 10 60 9", 8);
        fault("grown 6 9 61 9", 10);
        fault("grown 6 9 60 10", 13);
        fault("grown 6 9 60", 12);
        fault("grown 6 9 60 9 1", 14);
        fault("grown -1 0 0 0", 6);
    }

    private void textOfChild() {
        asks(TERMS, "child T G P Q R (three GROWN ones; a second, third that was told: its place);");
        ChosenBackAtNine x = plain(0, 0, 0, 0);
        items(x, "child 0 9 3 0 2;child 9 0 1 2 3", 2);
        due("godparents of the first", x.childOf(0, 3), 13);
        due("taste and greed of the first", 10 * x.childOf(0, 0) + x.childOf(0, 1), 9);
        due("godparents of the second", x.childOf(1, 3), 14);
        due("taste and greed of the second", 10 * x.childOf(1, 0) + x.childOf(1, 1), 90);
        fault(() -> plain(0, 0, 0, 0), "child 10 9 0 1 2", 6);
        fault(() -> plain(0, 0, 0, 0), "child 9 10 0 1 2", 8);
        fault(() -> plain(0, 0, 0, 0), "child 9 9 4 1 2", 10);
        fault(() -> plain(0, 0, 0, 0), "child 9 9 0 4 2", 12);
        fault(() -> plain(0, 0, 0, 0), "child 9 9 0 1 4", 14);
        fault(() -> plain(0, 0, 0, 0), "child 9 9 1 1 2", 12);
        fault(() -> plain(0, 0, 0, 0), "child 9 9 1 2 1", 14);
        fault(() -> plain(0, 0, 0, 0), "child 9 9 2 1 1", 14);
        fault(() -> plain(0, 0, 0, 0), "child 9 9 1 01 2", 12);
        fault(() -> plain(0, 0, 0, 0), "child 9 9 0 1", 13);
        fault(() -> plain(0, 0, 0, 0), "child 9 9 0 1 2 3", 15);
        fault(() -> plain(0, 0), "child 9 9 0 1 2", 14);
        fault("child 9 9 0 1 2", 10);
    }

    private void textOfGift() {
        asks(TERMS, "gift C P N (LIKING is N times GREED more, N 0 to 20; held to 99; a DEAD one: P's place);");
        ChosenBackAtNine x = small();
        items(x, "gift 0 3 0", 1);
        due("no gifts: liking", x.pull(0, 3, 0), 8);
        items(x, "gift 0 3 20", 1);
        due("20 gifts: liking", x.pull(0, 3, 0), 48);
        items(x, "gift 1 0 19", 1);
        due("19 gifts to the other: liking", x.pull(1, 0, 0), 95);
        items(x, "gift 1 0 1", 1);
        due("held: liking", x.pull(1, 0, 0), 99);
        fault(Part::small, "gift 0 3 21", 9);
        fault(Part::small, "gift 2 3 20", 5);
        fault(Part::small, "gift 0 7 20", 7);
        fault(Part::small, "gift 0 2 20", 7);
        fault(Part::small, "gift 0 2 0", 7);
        fault(Part::small, "gift 1 06 21", 7);
        fault(Part::small, "gift 0 3", 8);
        fault(() -> plain(0, 0, 0), "gift 0 0 0", 5);
    }

    private void textOfAge() {
        asks(TERMS, "age C N (0 to 30);");
        ChosenBackAtNine x = small();
        items(x, "age 0 30", 1);
        due("age 30", x.childOf(0, 2), 30);
        items(x, "age 0 0", 1);
        due("age 0", x.childOf(0, 2), 0);
        due("age of the other", x.childOf(1, 2), 7);
        fault(Part::small, "age 0 31", 6);
        fault(Part::small, "age 2 30", 4);
        fault(Part::small, "age 0", 5);
        fault("age 0 0", 4);
    }

    private void textOfFlood() {
        asks(TERMS, "flood N.");
        ChosenBackAtNine x = new ChosenBackAtNine();
        items(x, "flood 9", 1);
        due("flood 9", x.status(2), 9);
        items(x, "flood 0", 1);
        due("flood 0", x.status(2), 0);
        fault("flood 10", 6);
        fault("flood", 5);
    }

    private void oneBlankAndOneToTwoDigits() {
        asks(TERMS, "One blank between words and NUMBERS (1 to 2 digits).");
        items(new ChosenBackAtNine(), "grown 1 01 20 02", 1);
        fault("flood1", 5);
        fault("flood  1", 6);
        fault("flood\t1", 5);
        fault("grown 1  1 20 2", 8);
        fault("grown 1 1 202", 12);
        fault("flood 001", 8);
        fault("flood x", 6);
        fault("flood ;", 6);
    }

    private void allIsToldOverWhatThereIsOrNothing() {
        asks(TERMS, "All is told over what there is, or nothing");
        ChosenBackAtNine x = small();
        items(x, "grown 5 7 6 5;child 4 3 7 0 1;gift 2 7 2;age 2 8;flood 3", 5);
        due("a new number of a grown one", x.grownOf(7, 0), 5);
        due("a new number of a child", x.childOf(2, 3), 131);
        due("liking by the new one", x.pull(2, 7, 0), 6);
        due("its age", x.childOf(2, 2), 8);
        due("flood", x.status(2), 3);
        due("who was there is as he was", x.grownOf(1, 2), 10);
        due("liking that was is as it was", x.pull(0, 3, 0), 8);
        due("an age that was is as it was", x.childOf(1, 2), 7);
        // Each of these would tell much, were it not for its end.
        fault(Part::small, "grown 5 7 6 5;child 4 3 7 0 1;gift 2 7 2;age 2 8;flood 3;", 57);
        fault(Part::small, "gift 0 3 5;age 0 8;flood 9;age 2 1", 31);
    }

    private void noRoomIsTheWordOnceItIsWhole() {
        asks(TERMS, "(what there is no room for can't stand: its word, once that is whole).");
        fault(Part::full, "grown 0 0 0 0", 0);
        fault(Part::full, "grown", 0);
        fault(Part::full, "child 0 0 0 1 2", 0);
        fault(Part::full, "child", 0);
        fault(Part::full, "flood 1;grown 9", 8);
        fault(Part::full, "flood 1;child 9", 8);
        items(full(), "gift 5 7 20;age 5 30;flood 9", 3);
        // One place is left, and the text itself fills it.
        fault(() -> plain(0, 0, 0, 0, 0, 0, 0), "grown 0 0 0 0;grown 0 0 0 0", 14);
        items(plain(0, 0, 0, 0, 0, 0, 0), "grown 0 0 0 0;flood 1", 2);
    }

    private void theFaultIsTheFirstPlaceThatCannotStand() {
        asks(TERMS, "The FAULT: the first place at which an element can't stand as such texts go on");
        fault("x", 0);
        fault("Flood 1", 0);
        fault("gxown 0 0 0 0", 1);
        fault("girown 0 0 0 0", 2);
        fault("grift 0 0 0", 2);
        fault("growx 0 0 0 0", 4);
        fault("growns 0 0 0 0", 5);
        fault("chile 0 0 0 1 2", 4);
        fault("agx 0 0", 2);
        fault("flooo 1", 4);
        fault("flood 1x", 7);
        fault("flood 1;flood 2;x", 16);
        fault("flood 1;flood x;flood 99;y", 14);
    }

    private void endedTooEarlyIsTheNumberOfElements() {
        asks(TERMS, "(the number of elements, if it ends too early);");
        fault("", 0);
        fault("g", 1);
        fault("gr", 2);
        fault("a", 1);
        fault("flo", 3);
        fault("flood", 5);
        fault("flood ", 6);
        fault("grown 0 0 0", 11);
        fault("grown 0 0 0 ", 12);
        fault("flood 1;", 8);
        fault("flood 1;chil", 12);
        // Numbers told ahead, greater than there are children, are not taken for those that are missing.
        fault("grown 6 9 60 9;age", 18);
        fault("grown 6 9 60 9;gift", 19);
        fault("grown 6 9 60 9;flood", 20);
        fault(() -> plain(0, 0, 0), "grown 6 9 60 9;child", 20);
    }

    private void aNumberThatMayNotBeIsItsFirstDigit() {
        asks(TERMS, "of a NUMBER that may not be the place of its first digit.");
        fault("flood 10", 6);
        fault("flood 99;flood 1", 6);
        fault("grown 07 0 0 0", 6);
        fault("grown 0 99 0 0", 8);
        fault("grown 00 00 61 0", 12);
        fault("flood 01;flood 10", 15);
    }
}
