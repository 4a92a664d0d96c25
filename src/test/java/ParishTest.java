/** Promises 9 to 18: who is in the parish, what pulls, and parishes read from texts. */
public final class ParishTest {
    private static final Check CHECK = new Check("ParishTest");
    private static final int LOW = Integer.MIN_VALUE;
    private static final int HIGH = Integer.MAX_VALUE;

    public static void main(String[] args) {
        grown();
        child();
        flood();
        age();
        gift();
        grownOf();
        childOf();
        pullOfKinds();
        pullHasNoLessThanNothing();
        pullIsRefused();
        aParishIsRead();
        aParishIsToldOver();
        aParishOfOtherSorts();
        faultsOfLetters();
        faultsOfNumbers();
        faultsOfWhoIsThere();
        faultsOfRoom();
        allOrNothing();
        parishIsRefused();
        CHECK.end();
    }

    private static void due(String call, long got, long want) {
        CHECK.due(call, got, want);
    }

    private static void grown() {
        ChosenBackAtNine x = new ChosenBackAtNine();
        due("grown no kind", x.grown(7, 10, 0, 0), -1);
        due("grown no kind -1", x.grown(-1, 0, 0, 0), -1);
        due("grown no kind low", x.grown(LOW, 0, 0, 0), -1);
        due("grown a", x.grown(0, 10, 0, 0), -6);
        due("grown a -1", x.grown(0, -1, 0, 0), -6);
        due("grown means", x.grown(0, 0, 61, 0), -6);
        due("grown means -1", x.grown(0, 0, -1, 0), -6);
        due("grown tricks", x.grown(0, 0, 0, 10), -6);
        due("grown tricks -1", x.grown(0, 0, 0, -1), -6);
        due("grown none yet", x.status(0), 0);
        for (int i = 0; i < 8; i++) {
            due("grown " + i, x.grown(i % 7, i, 60 - i, 9 - i), i);
        }
        due("grown a ninth", x.grown(0, 0, 0, 0), -7);
        due("grown a ninth, wrong", x.grown(0, 0, 0, 10), -6);
        due("grown how many", x.status(0), 8);
        due("grown refusals -1", Check.refusals(x, -1), 3);
        due("grown refusals -6", Check.refusals(x, -6), 7);
        due("grown refusals -7", Check.refusals(x, -7), 1);
        due("grown highest", new ChosenBackAtNine().grown(6, 9, 60, 9), 0);
    }

    private static void child() {
        ChosenBackAtNine x = Check.told("grown 0 1 2 3;grown 1 1 2 3;grown 2 1 2 3;grown 4 1 2 3");
        due("child nobody one", x.child(10, 0, 4, 1, 2), -1);
        due("child nobody two", x.child(0, 0, 0, -1, 2), -1);
        due("child nobody three", x.child(0, 0, 0, 0, HIGH), -1);
        due("child taste", x.child(10, 0, 0, 1, 2), -6);
        due("child taste -1", x.child(-1, 0, 0, 1, 2), -6);
        due("child greed", x.child(0, 10, 0, 1, 2), -6);
        due("child greed -1", x.child(0, -1, 0, 1, 2), -6);
        due("child one is two", x.child(0, 0, 1, 1, 2), -6);
        due("child one is three", x.child(0, 0, 1, 2, 1), -6);
        due("child two is three", x.child(0, 0, 2, 1, 1), -6);
        due("child none yet", x.status(1), 0);
        for (int i = 0; i < 6; i++) {
            due("child " + i, x.child(i, 9 - i, 3, 1, i % 2 == 0 ? 0 : 2), i);
            due("child " + i + " godparents", x.childOf(i, 3), i % 2 == 0 ? 11 : 14);
        }
        due("child a seventh", x.child(0, 0, 0, 1, 2), -7);
        due("child a seventh, wrong", x.child(0, 0, 0, 1, 1), -6);
        due("child how many", x.status(1), 6);
        due("child refusals", Check.allRefusals(x), 12);
    }

    private static void flood() {
        ChosenBackAtNine x = new ChosenBackAtNine();
        due("flood", x.flood(9), 0);
        due("flood then", x.flood(0), 9);
        due("flood 10", x.flood(10), -6);
        due("flood -1", x.flood(-1), -6);
        due("flood 4", x.flood(4), 0);
        due("flood is", x.status(2), 4);
        due("flood refusals", Check.refusals(x, -6), 2);
    }

    private static ChosenBackAtNine family() {
        return Check.told("grown 0 0 9 1;grown 4 9 60 9;grown 1 2 3 4;grown 2 5 0 0",
                "child 3 2 0 1 2;child 9 0 1 2 3;child 1 9 3 1 0");
    }

    private static void age() {
        ChosenBackAtNine x = family();
        due("age", x.age(0, 30), 0);
        due("age then", x.age(0, 0), 30);
        due("age of another", x.age(2, 7), 0);
        due("age nobody", x.age(3, 31), -1);
        due("age nobody -1", x.age(-1, 0), -1);
        due("age 31", x.age(2, 31), -6);
        due("age -1", x.age(2, -1), -6);
        due("age is", x.childOf(2, 2), 7);
        due("age refusals", Check.allRefusals(x), 4);
    }

    private static void gift() {
        ChosenBackAtNine x = family();
        due("gift", x.gift(0, 0, 4), 8);
        due("gift more", x.gift(0, 0, 20), 48);
        due("gift of none", x.gift(0, 0, 0), 48);
        due("gift to who has no greed", x.gift(1, 0, 20), 0);
        due("gift held to 99", x.gift(2, 3, 11), 99);
        due("gift held to 99 still", x.gift(2, 3, 20), 99);
        due("gift held from above", x.gift(2, 0, 20), 99);
        due("gift no child", x.gift(3, 0, 21), -1);
        due("gift no child -1", x.gift(-1, 1, 1), -1);
        due("gift no grown", x.gift(0, 4, 21), -1);
        due("gift no grown -1", x.gift(0, -1, 1), -1);
        due("gift 21", x.gift(0, 0, 21), -6);
        due("gift -1", x.gift(0, 0, -1), -6);
        due("gift of the dead", x.gift(0, 1, 1), -6);
        due("gift of none of the dead", x.gift(0, 1, 0), -6);
        due("gift refused", x.pull(0, 1, 0), 0);
        due("gifts together", x.status(5), 48 + 99 + 99);
        due("gift refusals", Check.allRefusals(x), 8);
    }

    private static void grownOf() {
        ChosenBackAtNine x = Check.told("grown 0 0 0 0;grown 5 7 44 8;grown 1 2 4 4;grown 2 5 5 0",
                "child 3 2 0 1 2;child 9 0 1 2 3");
        int[] want = {5, 7, 44, 8, 0, 2, 8};
        for (int what = 0; what < 7; what++) {
            due("grownOf " + what, x.grownOf(1, what), want[what]);
        }
        due("grownOf charge of one", x.grownOf(0, 5), 1);
        due("grownOf shoes of 0", x.grownOf(0, 6), 0);
        due("grownOf shoes of 4", x.grownOf(2, 6), 0);
        due("grownOf shoes of 5", x.grownOf(3, 6), 1);
        due("grownOf another what", x.grownOf(0, 7), -5);
        due("grownOf what -1", x.grownOf(0, -1), -5);
        due("grownOf nobody", x.grownOf(4, 0), -5);
        due("grownOf nobody -1", x.grownOf(-1, 0), -5);
        due("grownOf low", x.grownOf(LOW, LOW), -5);
        due("grownOf refusals -5", Check.refusals(x, -5), 5);
        due("grownOf refusals", Check.allRefusals(x), 5);
        x.choose(0);
        due("grownOf dropped", x.grownOf(0, 4), 1);
    }

    private static void childOf() {
        ChosenBackAtNine x = family();
        x.age(1, 12);
        int[] want = {9, 0, 12, 14};
        for (int what = 0; what < 4; what++) {
            due("childOf " + what, x.childOf(1, what), want[what]);
        }
        due("childOf first", x.childOf(0, 0), 3);
        due("childOf last's greed", x.childOf(2, 1), 9);
        due("childOf another what", x.childOf(0, 4), -5);
        due("childOf what -1", x.childOf(0, -1), -5);
        due("childOf nobody", x.childOf(3, 0), -5);
        due("childOf nobody -1", x.childOf(-1, 3), -5);
        due("childOf refusals -5", Check.refusals(x, -5), 4);
        due("childOf refusals", Check.allRefusals(x), 4);
    }

    private static void pullOfKinds() {
        // One of each kind, a 5, means 23 (paying 4), tricks 2; tastes 4 and 3, greed 3 of both.
        ChosenBackAtNine x = Check.told(
                "grown 0 5 23 2;grown 1 5 23 2;grown 2 5 23 2;grown 3 5 23 2;grown 4 5 23 2;grown 5 5 23 2;grown 6 5 4 2",
                "grown 6 5 5 2;child 4 3 0 1 2;child 3 3 0 1 2;flood 6;age 0 7");
        int[] eager = {8, 13, 23, 20, 7, 53, 14, 0};
        int[] even = {6, 11, 6, 18, 0, 36, 12, 0};
        for (int grown = 0; grown < 8; grown++) {
            due("pull of " + grown + " on who tastes more than it is greedy", x.pull(0, grown, 1), eager[grown]);
            due("pull of " + grown + " on who tastes as it is greedy", x.pull(1, grown, 1), even[grown]);
            x.gift(0, grown, 2);
            due("liking of " + grown, x.pull(0, grown, 0), grown == 4 ? 0 : 6);
            int want = grown == 4 || grown == 7 ? eager[grown] : eager[grown] + 6;
            due("pull of " + grown + " who gave", x.pull(0, grown, 1), want);
        }
        due("flood was", x.flood(0), 6);
        due("pull of a lender without flood", x.pull(0, 5, 1), 29);
        due("age was", x.age(0, 30), 7);
        due("pull of the dead on one of 30", x.pull(0, 4, 1), 30);
    }

    private static void pullHasNoLessThanNothing() {
        // The miller is given up again and again: 0 and 1 are kept by turns with whom is taken.
        ChosenBackAtNine x = Check.told("grown 0 0 0 9;grown 0 0 0 8;grown 3 1 7 0;grown 6 1 4 0;child 9 1 0 1 2");
        due("pull of a miller", x.pull(0, 2, 1), 3);
        due("pull of one who is paid", x.pull(0, 3, 1), 2);
        due("choose", x.choose(0), 3);
        due("pull of a miller dropped once", x.pull(0, 2, 1), 1);
        due("choose again", x.choose(0), 2);
        due("pull of one paid dropped once", x.pull(0, 3, 1), 0);
        due("choose a third time", x.choose(0), 3);
        due("pull of a miller dropped twice", x.pull(0, 2, 1), 0);
        due("choose a fourth time", x.choose(0), 2);
        due("pull of one paid dropped twice", x.pull(0, 3, 1), 0);
        x.gift(0, 2, 3);
        due("pull of a miller dropped twice who gave 3", x.pull(0, 2, 1), 2);
    }

    private static void pullIsRefused() {
        ChosenBackAtNine x = family();
        due("pull no child", x.pull(3, 0, 2), -1);
        due("pull no child -1", x.pull(-1, 0, 0), -1);
        due("pull no grown", x.pull(0, 4, 2), -1);
        due("pull no grown -1", x.pull(0, -1, 0), -1);
        due("pull another what", x.pull(0, 0, 2), -5);
        due("pull what -1", x.pull(0, 0, -1), -5);
        due("pull refusals -1", Check.refusals(x, -1), 4);
        due("pull refusals", Check.allRefusals(x), 6);
    }

    // ---- texts

    private static void dueItems(ChosenBackAtNine x, String text, int items) {
        Check.putText(x, 0, 0, text);
        due("parish of " + text, x.parish(0), items);
        due("fault of " + text, x.fault(), -1);
    }

    private static void dueFault(ChosenBackAtNine x, String text, int fault) {
        Check.putText(x, 0, 0, text);
        due("parish of " + text, x.parish(0), -6);
        due("fault of " + text, x.fault(), fault);
    }

    private static void aParishIsRead() {
        ChosenBackAtNine x = new ChosenBackAtNine();
        dueItems(x, "grown 6 9 60 8", 1);
        due("grown is", x.grownOf(0, 0) * 1000 + x.grownOf(0, 1) * 100 + x.grownOf(0, 2), 6960);
        due("grown's tricks", x.grownOf(0, 3), 8);
        dueItems(x, "grown 00 01 02 03;grown 1 0 0 0;grown 4 0 0 0;child 9 8 00 03 1;age 0 30;flood 9", 6);
        due("how many", x.status(0), 4);
        due("flood", x.status(2), 9);
        due("taste", x.childOf(0, 0), 9);
        due("greed", x.childOf(0, 1), 8);
        due("age", x.childOf(0, 2), 30);
        due("godparents", x.childOf(0, 3), 11);
        dueItems(x, "gift 0 1 02", 1);
        due("liking", x.pull(0, 1, 0), 16);
        dueItems(x, "gift 0 1 20", 1);
        due("liking held", x.pull(0, 1, 0), 99);
        dueItems(x, "gift 0 0 0;gift 0 0 3;gift 0 0 1;flood 0;age 0 0", 5);
        due("liking of two gifts", x.pull(0, 0, 0), 32);
        due("flood again", x.status(2), 0);
        due("age again", x.childOf(0, 2), 0);
        due("refusals of what stands", Check.allRefusals(x), 0);
    }

    private static void aParishIsToldOver() {
        ChosenBackAtNine x = new ChosenBackAtNine();
        x.grown(0, 0, 0, 0);
        x.grown(0, 0, 0, 0);
        dueItems(x, "grown 2 0 0 0;child 1 2 2 1 0;grown 3 0 0 0;child 3 4 3 2 1;gift 1 3 1", 5);
        due("how many grown", x.status(0), 4);
        due("how many children", x.status(1), 2);
        due("first child", x.childOf(0, 3), 7);
        due("second child", x.childOf(1, 3), 14);
        due("liking", x.pull(1, 3, 0), 4);
        StringBuilder many = new StringBuilder("age 0 13");
        for (int i = 0; i < 19; i++) {
            many.append(";age 1 ").append(i % 10);
        }
        due("as long as a row", many.length(), 160);
        dueItems(x, many.toString(), 20);
        due("age by the first item", x.childOf(0, 2), 13);
        due("age by the last item", x.childOf(1, 2), 8);
    }

    private static void aParishOfOtherSorts() {
        String text = "flood 7";
        for (int sort = 0; sort < 4; sort++) {
            ChosenBackAtNine x = new ChosenBackAtNine();
            Check.putText(x, 0, sort, text);
            due("parish of sort " + sort, x.parish(0), 1);
            x.set(0, 6, '8' + (1L << 32));
            due("parish of lowest 32 bits, sort " + sort, x.parish(0), 1);
            due("flood by lowest 32 bits, sort " + sort, x.status(2), 8);
            x.set(0, 6, '9' + (1L << 16));
            due("parish of more bits, sort " + sort, x.parish(0), sort < 2 ? 1 : -6);
            due("fault of more bits, sort " + sort, x.fault(), sort < 2 ? -1 : 6);
            x.set(0, 0, 'f' + (1L << 8));
            x.set(0, 6, '5');
            due("parish of a wide letter, sort " + sort, x.parish(0), sort < 1 ? 1 : -6);
            due("fault of a wide letter, sort " + sort, x.fault(), sort < 1 ? -1 : 0);
        }
    }

    private static void faultsOfLetters() {
        ChosenBackAtNine x = new ChosenBackAtNine();
        dueFault(x, "", 0);
        dueFault(x, " ", 0);
        dueFault(x, ";", 0);
        dueFault(x, "x", 0);
        dueFault(x, "Flood 1", 0);
        dueFault(x, "g", 1);
        dueFault(x, "ga", 1);
        dueFault(x, "gr", 2);
        dueFault(x, "gi", 2);
        dueFault(x, "grift", 2);
        dueFault(x, "girown", 2);
        dueFault(x, "gif", 3);
        dueFault(x, "gifr", 3);
        dueFault(x, "growx", 4);
        dueFault(x, "grow", 4);
        dueFault(x, "grown", 5);
        dueFault(x, "growns", 5);
        dueFault(x, "grown;", 5);
        dueFault(x, "grown ", 6);
        dueFault(x, "grown  1", 6);
        dueFault(x, "grown x", 6);
        dueFault(x, "grown -1", 6);
        dueFault(x, "grown 0", 7);
        dueFault(x, "grown 0;", 7);
        dueFault(x, "grown 0 0 0", 11);
        dueFault(x, "grown 0 0 0 ", 12);
        dueFault(x, "grown 0 0 0 0 ", 13);
        dueFault(x, "grown 0 0 0 0x", 13);
        dueFault(x, "grown 0 0 0 0;", 14);
        dueFault(x, "grown 0 0 0 0; grown 0 0 0 0", 14);
        dueFault(x, "grown 0 0 0 0;;", 14);
        dueFault(x, "flood 1 ;flood 2", 7);
        dueFault(x, "flood 1;flood 2;fl", 18);
        dueFault(x, "flood 1;flood 2;flo0d", 19);
        dueFault(x, "ag", 2);
        dueFault(x, "agf", 2);
        dueFault(x, "age0", 3);
        dueFault(x, "chilD", 4);
        dueFault(x, "child", 5);
        due("nobody came", x.status(0) + x.status(2), 0);
        due("refusals", Check.refusals(x, -6), 39);
    }

    private static void faultsOfNumbers() {
        ChosenBackAtNine x = Check.told("grown 0 0 0 0;grown 0 0 0 0;grown 0 0 0 0;child 0 0 0 1 2");
        dueFault(x, "grown 7 0 0 0", 6);
        dueFault(x, "grown 7", 6);
        dueFault(x, "grown 10 0 0 0", 6);
        dueFault(x, "grown 006", 8);
        dueFault(x, "grown 060", 8);
        dueFault(x, "grown 123", 6);
        dueFault(x, "grown 6 10 0 0", 8);
        dueFault(x, "grown 6 9 61 0", 10);
        dueFault(x, "grown 6 9 600 0", 12);
        dueFault(x, "grown 6 9 60 10", 13);
        dueFault(x, "grown 6 9 60 090", 15);
        dueFault(x, "child 10 0 0 1 2", 6);
        dueFault(x, "child 0 10 0 1 2", 8);
        dueFault(x, "gift 0 0 21", 9);
        dueFault(x, "gift 0 0 200", 11);
        dueFault(x, "gift 0 0 99", 9);
        dueFault(x, "age 0 31", 6);
        dueFault(x, "age 0 300", 8);
        dueFault(x, "flood 10", 6);
        dueFault(x, "flood 099", 8);
        dueFault(x, "flood 1;flood 10", 14);
        due("refusals", Check.allRefusals(x), 21);
    }

    private static void faultsOfWhoIsThere() {
        ChosenBackAtNine x = new ChosenBackAtNine();
        dueFault(x, "child 0 0 0 1 2", 10);
        dueFault(x, "gift 0 0 0", 5);
        dueFault(x, "age 0 0", 4);
        Check.putText(x, 0, 0, "grown 0 0 0 0;grown 4 0 0 0;grown 0 0 0 0;grown 0 0 0 0;child 0 0 0 1 2");
        due("four and a child", x.parish(0), 5);
        dueFault(x, "child 0 0 4 0 1", 10);
        dueFault(x, "child 0 0 0 4 1", 12);
        dueFault(x, "child 0 0 0 1 4", 14);
        dueFault(x, "child 0 0 1 1 2", 12);
        dueFault(x, "child 0 0 1 01 2", 12);
        dueFault(x, "child 0 0 1 2 1", 14);
        dueFault(x, "child 0 0 1 2 2", 14);
        dueFault(x, "child 0 0 1 2 02", 14);
        dueFault(x, "gift 1 0 0", 5);
        dueFault(x, "gift 0 4 0", 7);
        dueFault(x, "gift 0 1 0", 7);
        dueFault(x, "gift 0 01 0", 7);
        dueFault(x, "gift 0 1", 7);
        dueFault(x, "gift 0 0;", 8);
        dueFault(x, "age 1 0", 4);
        dueFault(x, "grown 0 0 0 0;child 0 0 5 0 1", 24);
        dueFault(x, "grown 4 0 0 0;gift 0 4 0", 21);
        dueItems(x, "grown 0 0 0 0;child 0 0 4 0 1;gift 1 4 0;age 1 3", 4);
    }

    private static void faultsOfRoom() {
        ChosenBackAtNine x = Check.told("grown 0 0 0 0;grown 0 0 0 0;grown 0 0 0 0;grown 0 0 0 0;grown 0 0 0 0;grown 0 0 0 0");
        dueFault(x, "grown 0 0 0 0;grown 0 0 0 0;grown 0 0 0 0", 28);
        dueFault(x, "grown 0 0 0 0;grown 0 0 0 0;grown", 28);
        dueFault(x, "grown 0 0 0 0;grown 0 0 0 0;grow", 32);
        dueFault(x, "grown 0 0 0 0;grown 0 0 0 0;growx", 32);
        dueItems(x, "grown 0 0 0 0;grown 0 0 0 0;flood 3", 3);
        dueFault(x, "grown 0 0 0 0", 0);
        dueFault(x, "grownx", 0);
        dueFault(x, "gro", 3);
        dueFault(x, "grx", 2);
        dueItems(x, "child 0 0 0 1 2;child 0 0 0 1 2;child 0 0 0 1 2;child 0 0 0 1 2;child 0 0 0 1 2", 5);
        dueFault(x, "child 0 0 0 1 2;child 0 0 0 1 2", 16);
        dueItems(x, "child 0 0 0 1 2", 1);
        dueFault(x, "child", 0);
        dueFault(x, "chil", 4);
        dueFault(x, "flood 1;child 9", 8);
        dueItems(x, "gift 5 7 1;age 5 9", 2);
    }

    private static void allOrNothing() {
        ChosenBackAtNine x = Check.told("grown 0 0 0 0;grown 0 0 0 0;grown 0 0 0 0;child 2 3 0 1 2;flood 4");
        dueFault(x, "grown 0 0 0 0;child 0 0 1 2 3;gift 0 1 5;age 0 5;flood 8;flood", 62);
        due("no grown one came", x.status(0), 3);
        due("no child came", x.status(1), 1);
        due("no liking came", x.status(5), 0);
        due("no age came", x.childOf(0, 2), 0);
        due("no flood came", x.status(2), 4);
        dueItems(x, "grown 0 0 0 7;child 0 0 1 2 3", 2);
        due("who came then", x.grownOf(3, 3), 7);
        due("fault is gone", x.fault(), -1);
    }

    private static void parishIsRefused() {
        ChosenBackAtNine x = Check.told("grown 0 0 0 0");
        dueFault(x, "flood", 5);
        x.show(1, 0);
        due("parish no shelf", x.parish(8), -1);
        due("parish no shelf -1", x.parish(-1), -1);
        due("parish of a grown one", x.parish(1), -2);
        due("parish of nothing", x.parish(2), -3);
        due("fault of the latest that came to a row", x.fault(), 5);
        due("parish refusals", Check.allRefusals(x), 5);
        x.row(3, 2, 0);
        due("parish of an empty row", x.parish(3), -6);
        due("fault of an empty row", x.fault(), 0);
    }
}
