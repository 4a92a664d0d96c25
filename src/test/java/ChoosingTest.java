/** Promises 19 to 29: what comes of it, while nothing is changed. */
public final class ChoosingTest {
    private static final Check CHECK = new Check("ChoosingTest");
    private static final int LOW = Integer.MIN_VALUE;
    private static final int HIGH = Integer.MAX_VALUE;

    public static void main(String[] args) {
        chooses();
        choosesOfAlike();
        choosesOfThreeAlone();
        choosesIsRefused();
        by();
        byIsRefused();
        favourite();
        bare();
        picks();
        picksByLiking();
        picksOfFewShoes();
        woo();
        wooWithoutOthers();
        hold();
        wooIsRefused();
        two();
        twoIsRefused();
        tastes();
        tastesIsRefused();
        trades();
        tradesOfThreeChildren();
        noTrades();
        ahead();
        judge();
        judgeIsRefused();
        ninth();
        nothingIsChanged();
        CHECK.end();
    }

    private static void due(String call, long got, long want) {
        CHECK.due(call, got, want);
    }

    /** Grown ones of plain kind, whose pull on a child of taste 1 is their tricks. */
    private static ChosenBackAtNine plain(int... tricks) {
        ChosenBackAtNine x = new ChosenBackAtNine();
        for (int t : tricks) {
            x.grown(0, 0, 0, t);
        }
        return x;
    }

    private static void dueChoice(ChosenBackAtNine x, int child, int given, int kept, int taken) {
        due("given up by " + child, x.chooses(child, 0), given);
        due("kept by " + child, x.chooses(child, 1), kept);
        due("taken by " + child, x.chooses(child, 2), taken);
    }

    private static void chooses() {
        ChosenBackAtNine x = plain(3, 1, 2, 9, 8, 4);
        x.child(1, 0, 0, 1, 2);
        x.child(1, 0, 3, 4, 5);
        x.child(1, 0, 5, 1, 3);
        dueChoice(x, 0, 1, 0, 3);
        dueChoice(x, 1, 5, 3, 0);
        dueChoice(x, 2, 1, 3, 4);
    }

    private static void choosesOfAlike() {
        ChosenBackAtNine x = plain(5, 5, 5, 5, 5, 5);
        x.child(1, 0, 1, 3, 4);
        x.child(0, 9, 2, 5, 0);
        dueChoice(x, 0, 4, 1, 0);
        dueChoice(x, 1, 5, 0, 1);
        ChosenBackAtNine y = plain(0, 7, 7, 2, 2, 9);
        y.child(1, 0, 1, 2, 3);
        y.child(1, 0, 3, 4, 1);
        dueChoice(y, 0, 3, 1, 5);
        dueChoice(y, 1, 4, 1, 5);
    }

    private static void choosesOfThreeAlone() {
        ChosenBackAtNine x = plain(1, 3, 2);
        x.child(1, 0, 0, 1, 2);
        dueChoice(x, 0, -1, 1, -1);
        x.grown(6, 0, 60, 0);
        dueChoice(x, 0, 0, 1, 3);
    }

    private static void choosesIsRefused() {
        ChosenBackAtNine x = plain(1, 3, 2, 4);
        x.child(1, 0, 0, 1, 2);
        due("chooses nobody", x.chooses(1, 3), -11);
        due("chooses nobody -1", x.chooses(-1, 0), -11);
        due("chooses another what", x.chooses(0, 3), -15);
        due("chooses what -1", x.chooses(0, -1), -15);
        due("chooses refusals -1", Check.refusals(x, -1), 2);
        due("chooses refusals -5", Check.refusals(x, -5), 2);
        due("chooses refusals", Check.allRefusals(x), 4);
    }

    private static void by() {
        ChosenBackAtNine x = plain(3, 1, 2, 9, 8, 4);
        x.child(1, 0, 0, 1, 2);
        x.child(1, 0, 3, 4, 5);
        x.child(1, 0, 5, 1, 3);
        int[][] want = {{0, 1, 2, 2}, {5, 0, 0, 0}, {0, 0, 0, 1}, {0, 6, 1, 3}, {0, 0, 4, 2}, {2, 0, 0, 1}};
        for (int grown = 0; grown < 6; grown++) {
            for (int what = 0; what < 4; what++) {
                due("by of " + grown + ", " + what, x.by(grown, what), want[grown][what]);
            }
        }
        ChosenBackAtNine y = plain(1, 2, 3);
        y.child(1, 0, 0, 1, 2);
        due("by: charge where nobody is taken", y.by(0, 3), 1);
        due("by: given up where nobody is taken", y.by(0, 0), 0);
        due("by: kept where nobody is taken", y.by(2, 1), 1);
    }

    private static void byIsRefused() {
        ChosenBackAtNine x = plain(1, 3, 2, 4);
        due("by without children", x.by(3, 0) + x.by(3, 1) + x.by(3, 2) + x.by(3, 3), 0);
        due("by nobody", x.by(4, 4), -1);
        due("by nobody -1", x.by(-1, 0), -1);
        due("by another what", x.by(0, 4), -5);
        due("by what -1", x.by(0, -1), -5);
        due("by refusals -1", Check.refusals(x, -1), 2);
        due("by refusals", Check.allRefusals(x), 4);
    }

    private static void favourite() {
        ChosenBackAtNine x = plain(3, 1, 2, 9, 8, 4);
        due("favourite of no children", x.favourite(0), -1);
        x.child(1, 0, 0, 1, 2);
        due("favourite of one", x.favourite(0), 3);
        x.child(1, 0, 3, 4, 5);
        due("favourite of one each: the first", x.favourite(0), 0);
        x.child(1, 0, 5, 1, 0);
        due("favourite of two", x.favourite(0), 3);
        ChosenBackAtNine y = plain(1, 2, 3);
        y.child(1, 0, 0, 1, 2);
        due("favourite where nobody is taken", y.favourite(0), -1);
        due("favourite what 2", y.favourite(2), -15);
        due("favourite what -1", y.favourite(-1), -15);
        due("favourite refusals", Check.refusals(y, -5), 2);
        due("favourite all refusals", Check.allRefusals(y), 2);
    }

    private static void bare() {
        // Means 5 shoe one child, 4 none.
        ChosenBackAtNine x = Check.told("grown 0 0 5 9;grown 0 0 4 8;grown 0 0 60 1;grown 0 0 5 7;grown 0 0 4 0",
                "child 1 0 0 1 2");
        // 2 is given up, 3 taken: 0 and 3 shoe the one they have, 1 can't, 4 has none.
        due("bare", x.favourite(1), 1);
        x.child(1, 0, 0, 2, 4);
        // 4 is given up, 1 taken: 0 has two and shoes one, 1 has two, 3 has one.
        due("bare of two", x.favourite(1), 2);
        due("bare of no children", plain(1, 2, 3).favourite(1), 0);
    }

    private static void picks() {
        // 3 shoes one child, 4 shoes two, 5 none.
        ChosenBackAtNine x = Check.told("grown 0 0 0 0;grown 0 0 0 0;grown 0 0 0 0;grown 0 0 9 5;grown 0 0 10 4",
                "grown 0 0 4 9;child 1 1 0 1 2;child 1 1 0 1 2;child 1 1 0 1 2;child 1 1 0 1 2");
        due("picks: the first of alike", x.picks(0), 3);
        due("picks: the next best", x.picks(1), 4);
        due("picks: the next best too", x.picks(2), 4);
        due("picks: nobody is left", x.picks(3), -1);
        due("picks nobody", x.picks(4), -11);
        due("picks nobody -1", x.picks(-1), -11);
        due("picks refusals", Check.refusals(x, -1), 2);
        due("picks all refusals", Check.allRefusals(x), 2);
    }

    private static void picksByLiking() {
        ChosenBackAtNine x = Check.told("grown 0 0 0 0;grown 0 0 0 0;grown 0 0 0 0;grown 0 0 5 9;grown 0 0 5 4",
                "child 1 1 0 1 2;child 1 1 0 1 2;child 1 1 0 1 2;gift 2 3 1;gift 1 4 2");
        due("picks: out for one who likes more", x.picks(0), -1);
        due("picks: out for one who likes more, and then in", x.picks(1), 4);
        due("picks: who likes more", x.picks(2), 3);
        // Each likes best whom the other is liked by: as the children like, not as the grown ones do.
        ChosenBackAtNine y = Check.told("grown 0 0 0 0;grown 0 0 0 0;grown 0 0 0 0;grown 2 3 5 0;grown 0 0 5 3",
                "child 2 1 0 1 2;child 1 2 0 1 2;gift 0 4 2;gift 1 3 1");
        due("picks: what the first child likes", y.picks(0), 3);
        due("picks: what the second child likes", y.picks(1), 4);
    }

    private static void picksOfFewShoes() {
        ChosenBackAtNine x = Check.told("grown 4 0 60 0;grown 0 0 0 0;grown 0 0 0 0;grown 6 0 60 0;grown 4 0 5 0",
                "child 0 1 1 2 3;child 9 1 0 1 2;child 0 1 0 1 3;age 2 4");
        due("picks: the dead, of no pull", x.picks(0), 0);
        due("picks: one who is paid, of no pull, being first", x.picks(1), 3);
        due("picks: the dead, by age", x.picks(2), 4);
        due("picks: none but its three", firstOfThree().picks(0), -1);
    }

    private static ChosenBackAtNine firstOfThree() {
        return Check.told("grown 0 0 60 0;grown 0 0 60 0;grown 0 0 60 0;child 1 1 0 1 2");
    }

    private static void woo() {
        // Taste 1, greed 3: pulls 2, 4, 3 of its own, 9 and 5 of the others.
        ChosenBackAtNine x = plain(2, 4, 3, 9, 5, 9);
        x.child(1, 3, 0, 1, 2);
        due("woo: who is taken", x.woo(3, 0, 0), 0);
        due("woo: behind, needs more than 4 more", x.woo(4, 0, 0), 2);
        due("woo: alike but later, needs more", x.woo(5, 0, 0), 1);
        due("woo: who is kept", x.woo(1, 0, 0), 0);
        due("woo: alike and earlier is kept", x.woo(0, 0, 0), 1);
        due("woo: later is kept when ahead", x.woo(2, 0, 0), 1);
        x.gift(0, 3, 18);
        due("woo: in as many as may be", x.woo(4, 0, 0), 20);
        x.gift(0, 3, 1);
        due("woo: in more than may be", x.woo(4, 0, 0), -1);
        x.gift(0, 3, 20);
        x.gift(0, 4, 20);
        due("woo: what is held to 99", x.woo(4, 0, 0), -1);
        x.gift(0, 5, 20);
        due("woo: alike and later, held to 99", x.woo(5, 0, 0), -1);
        due("woo: nothing is given", x.pull(0, 5, 0), 60);
    }

    private static void wooWithoutOthers() {
        ChosenBackAtNine x = plain(2, 4, 3, 1, 1);
        x.child(1, 0, 0, 1, 2);
        due("woo: without greed nothing helps", x.woo(0, 0, 0), -1);
        due("woo: without greed the first is taken", x.woo(3, 0, 0), 0);
        due("woo: without greed the later isn't", x.woo(4, 0, 0), -1);
        x.grown(6, 0, 60, 0);
        x.child(1, 9, 0, 1, 2);
        due("woo: who is paid never pulls", x.woo(5, 1, 0), -1);
        ChosenBackAtNine y = Check.told("grown 0 0 0 9;grown 0 0 0 0;grown 0 0 0 0;grown 0 0 0 9;grown 0 0 0 0",
                "child 9 4 0 1 2");
        due("woo: 81 in 21 gifts of 4, in 20 but 80", y.woo(4, 0, 0), -1);
        due("woo: kept, too", y.woo(1, 0, 0), -1);
        y.child(9, 5, 0, 1, 2);
        due("woo: 81 in 17 gifts of 5", y.woo(4, 1, 0), 17);
        due("woo: kept in 17 gifts of 5", y.woo(2, 1, 0), 17);
        y.child(8, 4, 0, 1, 2);
        due("woo: 72 and more in 19 gifts of 4", y.woo(4, 2, 0), 19);
    }

    private static void hold() {
        ChosenBackAtNine x = plain(2, 4, 2, 9, 5);
        x.child(1, 3, 0, 1, 2);
        due("hold: who isn't given up", x.woo(0, 0, 1), 0);
        due("hold: who is kept", x.woo(1, 0, 1), 0);
        due("hold: who is given up", x.woo(2, 0, 1), 1);
        ChosenBackAtNine y = plain(9, 8, 0, 9);
        y.child(7, 3, 0, 1, 2);
        due("hold: 56 in 19 gifts of 3", y.woo(2, 0, 1), 19);
        y.child(8, 3, 0, 1, 2);
        due("hold: 64 in more than 20", y.woo(2, 1, 1), -1);
        y.child(6, 3, 0, 1, 2);
        due("hold: 48 in 16 of 3: alike the last is given up", y.woo(2, 2, 1), 17);
        ChosenBackAtNine z = plain(9, 8, 0);
        z.child(9, 0, 0, 1, 2);
        due("hold: where nobody is to take", z.woo(2, 0, 1), 0);
    }

    private static void wooIsRefused() {
        ChosenBackAtNine x = Check.told("grown 0 0 0 0;grown 4 0 0 0;grown 0 0 0 0;grown 4 0 0 0;grown 0 0 0 0",
                "child 1 1 0 1 2");
        due("woo nobody", x.woo(5, 0, 2), -11);
        due("woo nobody -1", x.woo(-1, 0, 0), -11);
        due("woo no child", x.woo(1, 1, 2), -11);
        due("woo no child -1", x.woo(1, -1, 0), -11);
        due("woo another what", x.woo(1, 0, 2), -15);
        due("woo what -1", x.woo(3, 0, -1), -15);
        due("woo of the dead", x.woo(3, 0, 0), -16);
        due("woo of a dead godparent", x.woo(1, 0, 0), -16);
        due("hold of a dead godparent", x.woo(1, 0, 1), -16);
        due("hold of who is none", x.woo(4, 0, 1), -16);
        due("hold of the dead who is none", x.woo(3, 0, 1), -16);
        due("woo refusals -1", Check.refusals(x, -1), 4);
        due("woo refusals -5", Check.refusals(x, -5), 2);
        due("woo refusals -6", Check.refusals(x, -6), 5);
    }

    private static void two() {
        // Gifts up to 3 (means 9 to 11), 4 (12), 0 (2); greed 2.
        ChosenBackAtNine x = Check.told("grown 0 0 0 0;grown 0 0 0 0;grown 0 0 0 0;grown 0 0 9 2;grown 0 0 11 2",
                "grown 0 0 12 0;grown 0 0 2 7;grown 0 0 2 9;child 1 2 0 1 2");
        dueTwo(x, 3, 4, 3, 3);
        dueTwo(x, 4, 5, 4, 3);
        dueTwo(x, 3, 5, 3, 3);
        dueTwo(x, 3, 6, 3, 3);
        dueTwo(x, 6, 7, 7, 0);
        dueTwo(x, 5, 6, 5, 4);
        dueTwo(x, 5, 7, 7, 0);
        dueTwo(x, 3, 7, 7, 0);
        x.gift(0, 5, 2);
        dueTwo(x, 5, 7, 5, 3);
        dueTwo(x, 6, 5, 5, 2);
        x.gift(0, 3, 20);
        x.gift(0, 3, 20);
        x.gift(0, 3, 20);
        x.gift(0, 4, 20);
        x.gift(0, 4, 20);
        x.gift(0, 4, 8);
        dueTwo(x, 4, 3, 3, 0);
        ChosenBackAtNine y = Check.told("grown 0 0 0 0;grown 0 0 0 0;grown 0 0 0 0;grown 6 0 60 2;grown 6 9 60 2",
                "grown 0 0 60 0;grown 0 0 60 0;child 1 5 0 1 2");
        dueTwo(y, 3, 4, 3, 0);
        dueTwo(y, 4, 5, 5, 1);
        dueTwo(y, 5, 6, 5, 20);
        y.gift(0, 6, 1);
        dueTwo(y, 5, 6, 5, 20);
    }

    private static void dueTwo(ChosenBackAtNine x, int one, int other, int winner, int price) {
        String who = one + " and " + other;
        due("two: who wins of " + who, x.two(one, other, 0, 0), winner);
        due("two: who wins of them turned " + who, x.two(other, one, 0, 0), winner);
        due("two: the price of " + who, x.two(one, other, 0, 1), price);
        due("two: the price turned of " + who, x.two(other, one, 0, 1), price);
    }

    private static void twoIsRefused() {
        ChosenBackAtNine x = Check.told("grown 0 0 9 0;grown 4 0 9 0;grown 0 0 9 0;grown 4 0 9 0;grown 0 0 9 0",
                "grown 0 0 9 0;child 1 1 0 1 2");
        due("two nobody", x.two(6, 4, 0, 2), -1);
        due("two nobody -1", x.two(4, -1, 0, 2), -1);
        due("two the same", x.two(4, 4, 0, 2), -1);
        due("two no child", x.two(4, 5, 1, 2), -1);
        due("two no child -1", x.two(4, 5, -1, 0), -1);
        due("two another what", x.two(0, 3, 0, 2), -5);
        due("two what -1", x.two(4, 5, 0, -1), -5);
        due("two one a godparent", x.two(0, 4, 0, 0), -6);
        due("two other a godparent", x.two(4, 2, 0, 1), -6);
        due("two one dead", x.two(3, 4, 0, 0), -6);
        due("two other dead", x.two(4, 3, 0, 1), -6);
        due("two", x.two(4, 5, 0, 0), 4);
        due("two refusals -1", Check.refusals(x, -1), 5);
        due("two refusals -5", Check.refusals(x, -5), 2);
        due("two refusals -6", Check.refusals(x, -6), 4);
    }

    private static void tastes() {
        // A thief of a 3 pulls 9 on those who taste above greed 4, a plain one twice the taste.
        ChosenBackAtNine x = Check.told("grown 0 0 0 0;grown 0 0 0 1;grown 0 0 0 3;grown 2 3 0 0;grown 0 0 0 1",
                "child 7 4 0 1 2");
        due("tastes: the plain one", x.tastes(0, 0, 2, 4), 1 << 1 | 1 << 2 | 1 << 3 | 1 << 4);
        due("tastes: the thief, being first of alike at 9", x.tastes(0, 0, 2, 3), 1 << 5 | 1 << 6 | 1 << 7 | 1 << 8 | 1 << 9);
        due("tastes: none at taste 0", x.tastes(0, 2, 0, 3), 1);
        due("tastes: another", x.tastes(0, 1, 2, 4), 0);
        due("tastes: given up but not told", x.tastes(0, -1, 2, 4), 0);
        due("tastes: taken but not told", x.tastes(0, 0, 2, -1), 0);
        ChosenBackAtNine y = Check.told("grown 0 0 0 0;grown 1 4 0 0;grown 0 0 0 1;child 0 0 0 1 2");
        due("tastes: alike the first is kept", y.tastes(0, -1, 1, -1), 31);
        due("tastes: above it the other", y.tastes(0, -1, 2, -1), 1023 - 31);
        due("tastes: nobody is taken", y.tastes(0, 0, 1, -1), 0);
        due("tastes: its taste is as it was", y.childOf(0, 0), 0);
    }

    private static void tastesIsRefused() {
        ChosenBackAtNine x = plain(1, 2, 3, 4);
        x.child(1, 0, 0, 1, 2);
        due("tastes no child", x.tastes(1, 0, 2, 3), -1);
        due("tastes no child -1", x.tastes(-1, 0, 2, 3), -1);
        due("tastes given", x.tastes(0, 4, 2, 3), -1);
        due("tastes given -2", x.tastes(0, -2, 2, 3), -1);
        due("tastes kept", x.tastes(0, 0, 4, 3), -1);
        due("tastes kept none", x.tastes(0, 0, -1, 3), -1);
        due("tastes taken", x.tastes(0, 0, 2, 4), -1);
        due("tastes taken -2", x.tastes(0, 0, 2, -2), -1);
        due("tastes", x.tastes(0, 0, 2, 3), 1022);
        due("tastes refusals", Check.refusals(x, -1), 8);
    }

    private static void trades() {
        // Child 0 keeps 0 (4) and would rather have 3 (2 * 9); child 1 keeps 3 and would rather have 0 by gifts.
        ChosenBackAtNine x = Check.told("grown 0 0 0 2;grown 0 0 0 0;grown 0 0 0 0;grown 0 0 0 9;grown 0 0 0 0",
                "grown 0 0 0 0;child 2 1 0 1 2;child 1 5 3 4 5;gift 1 0 2");
        due("trades: one", x.trades(0), 1);
        due("trades: the first", x.trades(1), 1);
        due("trades: nobody has it yet", x.chooses(0, 1) * 10 + x.chooses(1, 1), 3);
    }

    private static void tradesOfThreeChildren() {
        ChosenBackAtNine x = Check.told("grown 0 0 0 2;grown 0 0 0 0;grown 0 0 0 0;grown 0 0 0 9;grown 0 0 0 0",
                "grown 0 0 0 0;child 0 0 1 2 3;child 2 1 0 1 2;child 1 5 3 4 5;gift 2 0 2;child 2 1 0 1 4");
        due("trades: two with one child", x.trades(0), 2);
        due("trades: the first of two", x.trades(1), 12);
    }

    private static void noTrades() {
        // As above, but alike in pull: 7 by taste 1 is not less than 9, and 9 not less than 9.
        ChosenBackAtNine x = Check.told("grown 0 0 0 2;grown 0 0 0 0;grown 0 0 0 0;grown 0 0 0 9;grown 0 0 0 0",
                "grown 0 0 0 0;child 2 1 0 1 2;child 1 7 3 4 5;gift 1 0 1");
        due("trades: alike is not enough", x.trades(0), 0);
        due("trades: none first", x.trades(1), -1);
        // Whom one keeps is of the other's three.
        ChosenBackAtNine y = Check.told("grown 0 0 0 2;grown 0 0 0 0;grown 0 0 0 0;grown 0 0 0 9;grown 0 0 0 0",
                "grown 0 0 0 0;child 2 1 0 1 2;child 1 5 3 4 0;gift 0 3 1");
        due("trades: not of its own three", y.trades(0), 0);
        due("trades what 2", y.trades(2), -15);
        due("trades what -1", y.trades(-1), -15);
        due("trades refusals", Check.refusals(y, -5), 2);
        due("trades all refusals", Check.allRefusals(y), 2);
        due("trades of nobody", new ChosenBackAtNine().trades(0), 0);
    }

    private static void ahead() {
        ChosenBackAtNine x = plain(4, 0, 0, 5);
        x.child(1, 0, 0, 1, 2);
        x.age(0, 6);
        due("ahead of none", x.ahead(2, 0, 0), 1);
        due("ahead 2", x.ahead(2, 2, 0), 1);
        due("ahead 2, dropped", x.ahead(2, 2, 1), 0);
        due("ahead 3", x.ahead(2, 3, 0), 0);
        due("ahead 3, dropped", x.ahead(2, 3, 1), 1);
        due("ahead 3, taken", x.ahead(3, 3, 0), 1);
        due("ahead 20, taken", x.ahead(3, 20, 0), 1);
        due("ahead 20, dropped", x.ahead(2, 20, 1), 1);
        due("ahead, nothing changed", x.status(3) + x.status(4) + x.status(5) + x.childOf(0, 2), 6);
        x.years(3);
        due("ahead of what was", x.ahead(2, 0, 1), 1);
        due("ahead nobody", x.ahead(4, 21, 2), -1);
        due("ahead nobody -1", x.ahead(-1, 0, 0), -1);
        due("ahead another what", x.ahead(0, 21, 2), -5);
        due("ahead what -1", x.ahead(0, 1, -1), -5);
        due("ahead 21", x.ahead(0, 21, 0), -6);
        due("ahead -1", x.ahead(0, -1, 1), -6);
        due("ahead refusals", Check.allRefusals(x), 6);
    }

    private static void judge() {
        ChosenBackAtNine x = plain(3, 1, 2, 9);
        x.child(1, 0, 0, 1, 2);
        dueJudged(x, 0, 3, 0, new long[] {1, 0, 3}, -1);
        dueJudged(x, 1, 3, 0, new long[] {2, 0, 3}, 0);
        dueJudged(x, 2, 3, 0, new long[] {1, 2, 3}, 1);
        dueJudged(x, 3, 3, 0, new long[] {1, 0, 2}, 2);
        dueJudged(x, 0, 3, 0, new long[] {2, 2, 2}, 0);
        dueJudged(x, 0, 3, 0, new long[] {1, 2, 2}, 1);
        dueJudged(x, 3, 4, 0, new long[] {1, 0, 3, 9}, -1);
        dueJudged(x, 3, 3, 0, new long[] {1 + (1L << 32), 7L << 32, 3 - (1L << 32)}, -1);
        dueJudged(x, 2, 3, 0, new long[] {1 + (1L << 16), 0, 3}, 0);
        dueJudged(x, 1, 3, 0, new long[] {1 + (1L << 16), 0, 3}, -1);
        ChosenBackAtNine y = plain(3, 1, 2);
        y.child(1, 0, 0, 1, 2);
        for (int sort = 0; sort < 4; sort++) {
            dueJudged(y, sort, 3, 0, new long[] {-1, 0, -1}, -1);
            dueJudged(y, sort, 3, 0, new long[] {1, 0, -1}, 0);
            dueJudged(y, sort, 3, 0, new long[] {-1, 0, 3}, 2);
        }
        dueJudged(y, 3, 3, 0, new long[] {0xFFFFFFFFL, 0, 0xFFFFFFFFL}, -1);
        dueJudged(y, 0, 3, 0, new long[] {255, 0, 255}, -1);
        dueJudged(y, 1, 3, 0, new long[] {255, 0, 255}, 0);
    }

    private static void dueJudged(ChosenBackAtNine x, int sort, int n, int child, long[] told, int want) {
        x.row(0, sort, n);
        for (int i = 0; i < told.length; i++) {
            x.set(0, i, told[i]);
        }
        due("judge of " + java.util.Arrays.toString(told) + " as sort " + sort, x.judge(0, child), want);
    }

    private static void judgeIsRefused() {
        ChosenBackAtNine x = plain(3, 1, 2, 9);
        x.child(1, 0, 0, 1, 2);
        x.row(0, 0, 2);
        x.show(1, 0);
        due("judge no shelf", x.judge(8, 0), -11);
        due("judge no shelf -1", x.judge(-1, 0), -11);
        due("judge no child", x.judge(1, 1), -11);
        due("judge no child -1", x.judge(2, -1), -11);
        due("judge of a grown one", x.judge(1, 0), -12);
        due("judge of nothing", x.judge(2, 0), -13);
        due("judge of two", x.judge(0, 0), -15);
        due("judge refusals -1", Check.refusals(x, -1), 4);
        due("judge refusals -2", Check.refusals(x, -2), 1);
        due("judge refusals -3", Check.refusals(x, -3), 1);
        due("judge refusals -5", Check.refusals(x, -5), 1);
    }

    private static void ninth() {
        ChosenBackAtNine x = plain(3, 1, 2, 9);
        x.child(1, 0, 0, 1, 2);
        int[] ages = {0, 1, 8, 9, 10, 30};
        int[] want = {9, 8, 1, -1, -1, -1};
        for (int i = 0; i < ages.length; i++) {
            x.age(0, ages[i]);
            due("ninth at " + ages[i], x.ninth(0), want[i]);
        }
        due("ninth nobody", x.ninth(1), -11);
        due("ninth nobody low", x.ninth(LOW), -11);
        due("ninth nobody high", x.ninth(HIGH), -11);
        due("ninth refusals", Check.refusals(x, -1), 3);
    }

    private static void nothingIsChanged() {
        ChosenBackAtNine x = Check.told("grown 0 0 9 3;grown 1 2 9 4;grown 3 0 30 1;grown 0 0 60 9;grown 2 4 9 5",
                "child 3 2 0 1 2;child 4 3 1 2 3;gift 0 4 3;age 1 4;flood 3");
        long before = all(x);
        x.chooses(0, 2);
        x.by(0, 3);
        x.favourite(1);
        x.picks(1);
        x.woo(4, 0, 0);
        x.woo(0, 0, 1);
        x.two(3, 4, 0, 1);
        x.tastes(0, 0, 1, 3);
        x.trades(1);
        x.ahead(3, 20, 1);
        x.ninth(1);
        due("nothing is changed", all(x), before);
    }

    private static long all(ChosenBackAtNine x) {
        long all = 0;
        for (int what = 0; what < 18; what++) {
            all = 31 * all + x.status(what);
        }
        for (int child = 0; child < x.status(1); child++) {
            for (int what = 0; what < 4; what++) {
                all = 31 * all + x.childOf(child, what);
            }
            for (int grown = 0; grown < x.status(0); grown++) {
                all = 31 * all + x.pull(child, grown, 0);
            }
        }
        for (int grown = 0; grown < x.status(0); grown++) {
            for (int what = 0; what < 7; what++) {
                all = 31 * all + x.grownOf(grown, what);
            }
        }
        return all;
    }
}
