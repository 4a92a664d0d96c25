/** The Terms: years, draws, shelves and moves. */
final class OfTruth extends Part {
    OfTruth(Sentences sentences) {
        super(sentences);
    }

    @Override
    void ask() {
        yearAges30AtMost();
        yearGives99AtMost();
        yearThoseOfNineChooseByNumbers();
        yearDropsAtOnce99AtMost();
        yearIsOneMore();
        drawsOfGrownChildAndGifts();
        drawsOfTheDeadThenAYear();
        seedIsAnIntWrapping();
        upper16BitsNoSign();
        shelves0To7HoldNothingAtFirst();
        rowsHave0To160Elements();
        lowestBitsAreKept();
        longsAsInts();
        movesWrap();
        bodies();
        bodyOfTheKindOrTheNextAbove();
        superFromTheKindAboveTheBody();
        traceInTheOrderOfBeginning();
    }

    private void yearAges30AtMost() {
        asks(TERMS, "A YEAR: AGE of all CHILDREN is 1 more (30 at most);");
        ChosenBackAtNine x = three();
        x.child(1, 2, 0, 1, 2);
        x.age(0, 29);
        x.years(1);
        due("29 and 1", x.childOf(0, 2), 30);
        due("0 and 1", x.childOf(1, 2), 1);
        x.years(1);
        due("30 stays", x.childOf(0, 2), 30);
        due("1 and 1", x.childOf(1, 2), 2);
        x.years(40);
        due("2 and 40", x.childOf(1, 2), 30);
    }

    private void yearGives99AtMost() {
        asks(TERMS, "each GODPARENT but DEAD ones gives: LIKING of him is 1 and a quarter of his TRICKS (cut) more "
                + "(99 at most);");
        int[] tricks = {0, 3, 4, 7, 8, 9};
        int[] want = {1, 1, 2, 2, 3, 3};
        ChosenBackAtNine x = plain(tricks);
        x.grown(4, 9, 60, 9);
        x.grown(1, 9, 60, 9);
        x.child(0, 0, 0, 1, 2);
        x.child(9, 9, 3, 4, 5);
        x.child(9, 9, 5, 6, 4);
        x.years(1);
        for (int g = 0; g < 6; g++) {
            due("by tricks " + tricks[g], x.pull(g / 3, g, 0), want[g]);
        }
        due("of who is no godparent nothing", x.pull(0, 3, 0) + x.pull(1, 0, 0) + x.pull(2, 7, 0), 0);
        due("of the dead nothing", x.pull(2, 6, 0), 0);
        due("all together", x.status(5), 18);
        ChosenBackAtNine y = plain(9, 9, 9);
        y.child(0, 1, 0, 1, 2);
        int[] gifts = {96, 97, 99};
        for (int g = 0; g < 3; g++) {
            for (int left = gifts[g]; left > 0; left -= 20) {
                y.gift(0, g, Math.min(20, left));
            }
            due("liking ahead", y.pull(0, g, 0), gifts[g]);
        }
        y.years(1);
        due("96 and 3", y.pull(0, 0, 0), 99);
        due("97 and 3 held", y.pull(0, 1, 0), 99);
        due("99 stays", y.pull(0, 2, 0), 99);
    }

    private void yearThoseOfNineChooseByNumbers() {
        asks(TERMS, "CHILDREN who are 9 then choose, by numbers");
        int[] ages = {7, 8, 9, 30};
        for (int age : ages) {
            ChosenBackAtNine x = plain(9, 8, 0, 5);
            x.child(1, 0, 0, 1, 2);
            x.age(0, age);
            x.years(1);
            due("of age " + age + " ahead: godparents", x.childOf(0, 3), age == 8 ? 11 : 7);
            due("of age " + age + " ahead: dropped", x.status(4), age == 8 ? 1 : 0);
        }
        // The miller pulls 4 by being none's, and 2 when the first child has dropped him.
        ChosenBackAtNine x = millers("child 1 0 0 1 2;child 1 0 0 1 4;age 0 8;age 1 8");
        x.years(1);
        due("the first drops him", x.childOf(0, 3), 11);
        due("then the second takes another", x.childOf(1, 3), 11);
        ChosenBackAtNine y = millers("child 1 0 0 1 4;child 1 0 0 1 2;age 0 8;age 1 8");
        y.years(1);
        due("the first takes him", y.childOf(0, 3), 7);
        due("then the second drops him", y.childOf(1, 3), 11);
    }

    private static ChosenBackAtNine millers(String children) {
        return Check.told("grown 0 0 0 9;grown 0 0 0 8;grown 3 1 9 0;grown 0 0 0 3;grown 0 0 0 2", children);
    }

    private void yearDropsAtOnce99AtMost() {
        asks(TERMS, "(DROPPED of whom one GIVES UP is 1 more, 99 at most, at once);");
        ChosenBackAtNine x = millers("child 1 0 0 1 2;child 1 0 0 1 4;age 0 8;age 1 8");
        due("now the second would take him", x.chooses(1, 2), 2);
        x.years(1);
        due("at once he pulls less", x.childOf(1, 3), 11);
        due("dropped", x.grownOf(2, 4), 1);
        ChosenBackAtNine y = plain(9, 9, 0, 0);
        y.child(1, 0, 0, 1, 2);
        for (int i = 0; i < 198; i++) {
            y.choose(0);
        }
        due("dropped 99 times", y.grownOf(2, 4), 99);
        y.age(0, 8);
        y.years(1);
        due("given up once more", y.childOf(0, 3), 11);
        due("dropped 99 times still", y.grownOf(2, 4), 99);
    }

    private void yearIsOneMore() {
        asks(TERMS, "YEAR is 1 more.");
        ChosenBackAtNine x = three();
        due("one", x.years(1), 1);
        due("forty more", x.years(40), 41);
        x.drawn(1);
        due("one by draws", x.status(3), 42);
    }

    private static ChosenBackAtNine fiveAndTwo() {
        ChosenBackAtNine x = plain(0, 0, 0, 0, 0);
        x.child(0, 1, 0, 1, 2);
        x.child(0, 2, 0, 1, 2);
        return x;
    }

    private void drawsOfGrownChildAndGifts() {
        asks(TERMS, "IN TRUTH: gifts; CHOOSING; YEARS; YEARS by draws, n: each: a GROWN one (a DRAW below how many), "
                + "a CHILD (a DRAW below how many), 1 and a DRAW below 3 gifts of him to it");
        ChosenBackAtNine x = fiveAndTwo();
        // Upper bits by SEED 1: 16838, 38526, 10113: 3 of five, 0 of two, 1 and 0 gifts.
        x.drawn(1);
        due("one gift of 3 to 0", x.pull(0, 3, 0), 1);
        due("but for what godparents give", x.status(5), 1 + 6);
        // Then 50283, 63819, 38395: 3 of five, 1 of two, 1 and 1 gifts.
        x.drawn(1);
        due("two gifts of 3 to 1", x.pull(1, 3, 0), 4);
        due("but for what godparents give again", x.status(5), 5 + 12);
        ChosenBackAtNine y = fiveAndTwo();
        y.drawn(2);
        due("both at once", parish(y).equals(parish(x)) ? 1 : 0, 1);
        // By SEED 2: 33676, 22817, 43007: 1 of five, 1 of two, 1 and 2 gifts.
        ChosenBackAtNine z = fiveAndTwo();
        z.seed(2);
        z.drawn(1);
        due("three gifts of 1 to 1, whose godparent he is", z.pull(1, 1, 0), 7);
    }

    private void drawsOfTheDeadThenAYear() {
        asks(TERMS, "(of DEAD ones none, though the DRAWS come); then a YEAR.");
        ChosenBackAtNine x = plain(0, 0, 0);
        x.grown(4, 0, 0, 9);
        x.grown(0, 0, 0, 0);
        x.child(0, 1, 0, 1, 2);
        x.child(0, 2, 0, 1, 2);
        x.drawn(1);
        due("of the dead 3 nothing", x.pull(0, 3, 0), 0);
        due("only godparents give", x.status(5), 6);
        due("three draws came", x.status(6), 662824084);
        due("a year passed", x.status(3) * 100 + x.childOf(0, 2), 101);
        // The gift comes ahead of the year in which the child is nine: 3 pulls 5 by then, and 4 but 3.
        ChosenBackAtNine y = plain(0, 0, 0, 0);
        y.grown(1, 3, 0, 0);
        y.child(0, 5, 0, 1, 2);
        y.age(0, 8);
        due("whom it would take without a gift", y.ahead(4, 1, 0), 1);
        due("all dropped", y.drawn(1), 1);
        due("whom it takes by a gift", y.childOf(0, 3), 11);
    }

    private void seedIsAnIntWrapping() {
        asks(TERMS, "A DRAW below n: SEED (1 at first) becomes SEED times 1103515245, and 12345 (an int, wrapping);");
        due("seed at first", new ChosenBackAtNine().status(6), 1);
        int[] seeds = {1, 0, -1, LOW, HIGH};
        int[] afterThree = {662824084, -1492899873, 646343466, 654583775, -1501140182};
        for (int i = 0; i < seeds.length; i++) {
            ChosenBackAtNine x = fiveAndTwo();
            x.seed(seeds[i]);
            x.drawn(1);
            due("three draws by " + seeds[i], x.status(6), afterThree[i]);
        }
    }

    private void upper16BitsNoSign() {
        asks(TERMS, "its upper 16 bits, no sign, modulo n.");
        // After the least SEED -2147471303, whose upper bits are 32768 (3 of five), 21468 (0 of two), 9988 (1 of three).
        ChosenBackAtNine x = fiveAndTwo();
        x.seed(LOW);
        x.drawn(1);
        due("two gifts of 3 to 0", x.pull(0, 3, 0), 2);
        // By -1: 48697 (2 of five), 4409 (1 of two), 9862 (1 of three).
        ChosenBackAtNine y = fiveAndTwo();
        y.seed(-1);
        y.drawn(1);
        due("two gifts of 2 to 1, whose godparent he is", y.pull(1, 2, 0), 5);
    }

    // ---- shelves

    private void shelves0To7HoldNothingAtFirst() {
        asks(TERMS, "SHELVES 0 to 7 hold NOTHING (at first), a ROW, or a GROWN one.");
        ChosenBackAtNine x = plain(0);
        for (int s = 0; s < 8; s++) {
            due("at first", x.holds(s), -1);
            due("row", x.row(s, 1, 1), 1);
            due("a row", x.holds(s), 101);
            due("show", x.show(s, 0), 1);
            due("a grown one", x.holds(s), 0);
        }
        for (int s : NO_SHELF) {
            refused(-1, "row(" + s + ", 1, 1)", y -> y.row(s, 1, 1));
        }
    }

    private void rowsHave0To160Elements() {
        asks(TERMS, "A ROW has a SORT (0 bytes, 1 shorts, 2 ints, 3 longs) and 0 to 160 elements, 0 at first;");
        for (int sort = 0; sort <= 3; sort++) {
            ChosenBackAtNine x = new ChosenBackAtNine();
            due("160 elements", x.row(0, sort, 160), 1);
            for (int i = 0; i < 160; i++) {
                due("element " + i, x.element(0, i), 0);
            }
            due("the first is there", x.set(0, 0, 1), 1);
            due("the last is there", x.set(0, 159, 1), 1);
            due("one more isn't", x.set(0, 160, 1), -5);
            due("no elements", x.row(1, sort, 0), 1);
            due("none is there", x.set(1, 0, 1), -5);
            due("sort", x.holds(1), 100 + sort);
            due("a new row in its place", x.row(0, sort, 160), 1);
            due("0 again", x.element(0, 0) + x.element(0, 159), 0);
        }
    }

    private void lowestBitsAreKept() {
        asks(TERMS, "what is put in keeps its lowest bits.");
        long[][] put = {{127, 128, 255, 256, -128, -129, Long.MAX_VALUE, Long.MIN_VALUE},
            {32767, 32768, 65535, 65536, -32768, -32769, Long.MAX_VALUE, Long.MIN_VALUE},
            {2147483647L, 2147483648L, 4294967295L, 4294967296L, -2147483648L, -2147483649L, Long.MAX_VALUE,
                Long.MIN_VALUE},
            {127, 65536, 4294967295L, 4294967296L, -1, 0, Long.MAX_VALUE, Long.MIN_VALUE}};
        long[][] kept = {{127, -128, -1, 0, -128, 127, -1, 0}, {32767, -32768, -1, 0, -32768, 32767, -1, 0},
            {2147483647L, -2147483648L, -1, 0, -2147483648L, 2147483647L, -1, 0}, put[3]};
        ChosenBackAtNine x = new ChosenBackAtNine();
        for (int sort = 0; sort <= 3; sort++) {
            x.row(0, sort, 8);
            for (int i = 0; i < 8; i++) {
                x.set(0, i, put[sort][i]);
                due(put[sort][i] + " in sort " + sort, x.element(0, i), kept[sort][i]);
            }
        }
    }

    private void longsAsInts() {
        asks(TERMS, "(As ints: of longs the lowest 32 bits.)");
        ChosenBackAtNine x = new ChosenBackAtNine();
        Check.putText(x, 0, 3, "flood 7");
        x.set(0, 0, 'f' + (1L << 32));
        x.set(0, 6, '8' + (-1L << 32));
        due("letters and digits of wide longs", x.parish(0), 1);
        due("flood", x.status(2), 8);
        due("an element is told whole", x.element(0, 0), 4294967296L + 'f');
    }

    // ---- moves

    /** Number g is of kind g; a of 3. */
    private static ChosenBackAtNine oneOfEachKind() {
        ChosenBackAtNine x = new ChosenBackAtNine();
        for (int kind = 0; kind <= 6; kind++) {
            x.grown(kind, 3, 0, 0);
        }
        return x;
    }

    private void act(int grown, int move, int x, int want, int... bodies) {
        ChosenBackAtNine y = oneOfEachKind();
        String call = "act(" + grown + ", " + move + ", " + x + ")";
        due(call, y.act(grown, move, x), want);
        due(call + ": bodies", y.status(7), bodies.length);
        for (int i = 0; i < bodies.length; i++) {
            due(call + ": body " + i, y.trace(i), bodies[i]);
        }
        due(call + ": no more", y.trace(bodies.length), -1);
    }

    private void movesWrap() {
        asks(TERMS, "MOVES of GROWN ones, with x (wrapping): 0 plays, 1 gives, 2 bows; m the number, k its a.");
        ChosenBackAtNine x = plain(0, 0, 0);
        x.grown(0, 4, 0, 0);
        due("plays(10)", x.act(3, 0, 10), 13);
        due("gives(10)", x.act(3, 1, 10), 26);
        due("bows(10)", x.act(3, 2, 10), 26 ^ 9);
        due("plays of the most wraps", x.act(3, 0, HIGH), -2147483646);
        due("gives of the most wraps", x.act(3, 1, HIGH), 4);
        due("bows of the least wraps", x.act(3, 2, LOW), 2147483641);
        due("no move -1", x.act(3, -1, 10), 0);
        due("no move 3", x.act(3, 3, 10), 0);
        due("times 3 wraps", oneOfEachKind().act(2, 1, HIGH), 6);
        ChosenBackAtNine dead = new ChosenBackAtNine();
        dead.grown(4, 0, 0, 0);
        due("minus the least is the least", dead.act(0, 2, LOW), LOW);
    }

    private void bodies() {
        asks(TERMS, "BODIES, each with its number: GROWN: 10 plays: x + m.");
        act(0, 0, 50, 50, 10);
        due("of number 7", plain(0, 0, 0, 0, 0, 0, 0, 0).act(7, 0, 50), 57);
        asks(TERMS, "11 gives: plays(x) * 2.");
        act(0, 1, 50, 100, 11, 10);
        asks(TERMS, "12 bows: gives(x) ^ plays(x - k).");
        act(0, 2, 50, 100 ^ 47, 12, 11, 10, 10);
        asks(TERMS, "UNCLE: 20 plays: super.plays(x) + k.");
        act(1, 0, 50, 54, 20, 10);
        asks(TERMS, "THIEF: 30 gives: super.gives(x) * 3.");
        act(2, 1, 50, 312, 30, 11, 10);
        asks(TERMS, "MILLER: 40 gives: super.gives(x + 1).");
        act(3, 1, 50, 114, 40, 11, 20, 10);
        act(3, 1, HIGH, (LOW + 6) * 2, 40, 11, 20, 10);
        asks(TERMS, "DEAD: 50 bows: -super.bows(x).");
        act(4, 2, 50, -(100 ^ 47), 50, 12, 11, 51, 10, 51, 10);
        asks(TERMS, "51 plays: super.plays(x) - m.");
        act(4, 0, 50, 50, 51, 10);
        asks(TERMS, "LENDER: 60 bows: super.bows(x) ^ 5.");
        act(5, 2, 50, 330 ^ 52 ^ 5, 60, 12, 30, 11, 10, 10);
        asks(TERMS, "PAYING: 70 plays: super.plays(x) * 2.");
        act(6, 0, 50, 118, 70, 20, 10);
        asks(TERMS, "71 gives: super.gives(x - k).");
        act(6, 1, 50, 228, 71, 40, 11, 70, 20, 10);
    }

    private void bodyOfTheKindOrTheNextAbove() {
        asks(TERMS, "plays(..) and so on: the body of the GROWN one's KIND, or of the next KIND above that has one;");
        act(2, 0, 50, 52, 10);
        act(3, 0, 50, 56, 20, 10);
        act(5, 0, 50, 55, 10);
        act(5, 1, 50, 330, 30, 11, 10);
        act(1, 1, 50, 108, 11, 20, 10);
        act(4, 1, 50, 100, 11, 51, 10);
        act(1, 2, 50, 108 ^ 51, 12, 11, 20, 10, 20, 10);
        act(2, 2, 50, 312 ^ 49, 12, 30, 11, 10, 10);
    }

    private void superFromTheKindAboveTheBody() {
        asks(TERMS, "super: from the KIND above the body's on.");
        // The uncle's body run by a miller goes on above the uncle, not above the miller.
        act(3, 0, 7, 13, 20, 10);
        act(6, 0, 7, 32, 70, 20, 10);
        act(5, 1, 7, 72, 30, 11, 10);
        act(3, 2, 50, 114 ^ 53, 12, 40, 11, 20, 10, 20, 10);
    }

    private void traceInTheOrderOfBeginning() {
        asks(TERMS, "THE TRACE: the numbers of the bodies that ran in the latest act(), in the order in which they "
                + "began; the first 20 are kept.");
        // The longest of all acts: ten bodies, so that all are kept.
        act(6, 2, 50, 228 ^ 112, 12, 71, 40, 11, 70, 20, 10, 70, 20, 10);
        ChosenBackAtNine x = oneOfEachKind();
        x.act(6, 2, 50);
        due("the tenth", x.trace(9), 10);
        for (int i : new int[] {-1, 10, 19, 20, 21, LOW, HIGH}) {
            due("trace(" + i + ")", x.trace(i), -1);
        }
        x.act(0, 0, 50);
        due("of the latest", x.trace(0), 10);
        due("of the latest alone", x.trace(1), -1);
    }
}
