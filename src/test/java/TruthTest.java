/** Promises 30 to 38: choosing and years in truth, draws, moves, the image and how many of what. */
public final class TruthTest {
    private static final Check CHECK = new Check("TruthTest");
    private static final int LOW = Integer.MIN_VALUE;
    private static final int HIGH = Integer.MAX_VALUE;

    public static void main(String[] args) {
        choose();
        chooseDropsAtMost99();
        chooseIsRefused();
        yearsGive();
        yearsLetChooseAtNine();
        yearsByNumbers();
        yearsWhereNobodyIsTaken();
        yearsAreHeld();
        yearsAreRefused();
        drawn();
        drawnOfTheDead();
        drawnIsRefused();
        seed();
        actOfKinds();
        actWraps();
        actOfNobody();
        trace();
        image();
        imageOfShelves();
        status();
        statusOfRefusals();
        CHECK.end();
    }

    private static void due(String call, long got, long want) {
        CHECK.due(call, got, want);
    }

    private static ChosenBackAtNine plain(int... tricks) {
        ChosenBackAtNine x = new ChosenBackAtNine();
        for (int t : tricks) {
            x.grown(0, 0, 0, t);
        }
        return x;
    }

    private static void choose() {
        ChosenBackAtNine x = plain(3, 1, 2, 9, 0);
        x.child(1, 0, 0, 1, 2);
        due("choose", x.choose(0), 3);
        due("choose: godparents", x.childOf(0, 3), 13);
        due("choose: dropped", x.grownOf(1, 4), 1);
        due("choose: all dropped", x.status(4), 1);
        due("choose: charge", x.grownOf(1, 5) * 10 + x.grownOf(3, 5), 1);
        due("choose: age", x.childOf(0, 2), 0);
        due("choose: liking", x.status(5), 0);
        due("choose: year", x.status(3), 0);
        due("choose again", x.choose(0), 1);
        due("choose again: godparents", x.childOf(0, 3), 11);
        due("choose again: dropped", x.grownOf(2, 4), 1);
        due("choose a third time", x.choose(0), 2);
        due("choose a third time: dropped", x.grownOf(1, 4), 2);
    }

    private static void chooseDropsAtMost99() {
        ChosenBackAtNine x = plain(9, 9, 0, 0);
        x.child(1, 0, 0, 1, 2);
        for (int i = 0; i < 196; i++) {
            x.choose(0);
        }
        due("dropped 98 times", x.grownOf(2, 4) * 100 + x.grownOf(3, 4), 9898);
        x.choose(0);
        due("dropped 99 times", x.grownOf(2, 4), 99);
        x.choose(0);
        due("dropped 99 times too", x.grownOf(3, 4), 99);
        due("dropped once more", x.choose(0), 3);
        due("dropped 99 times still", x.grownOf(2, 4), 99);
        due("dropped together", x.status(4), 198);
    }

    private static void chooseIsRefused() {
        ChosenBackAtNine x = plain(3, 1, 2);
        x.child(1, 0, 0, 1, 2);
        due("choose nobody", x.choose(1), -1);
        due("choose nobody -1", x.choose(-1), -1);
        due("choose of three alone", x.choose(0), -6);
        due("choose: nobody is dropped", x.status(4), 0);
        due("choose: godparents are kept", x.childOf(0, 3), 7);
        due("choose refusals -1", Check.refusals(x, -1), 2);
        due("choose refusals -6", Check.refusals(x, -6), 1);
        due("choose refusals", Check.allRefusals(x), 3);
    }

    private static void yearsGive() {
        // Tricks 0, 3, 4, 8, 9: 1, 1, 2, 3, 3 a year; the dead give nothing, nor who is no godparent.
        ChosenBackAtNine x = Check.told("grown 0 0 0 0;grown 1 0 0 3;grown 2 0 0 4;grown 3 0 0 8;grown 6 0 60 9;grown 4 0 0 9",
                "grown 5 0 0 7;grown 0 0 0 9;child 0 9 0 1 2;child 0 0 3 4 5;child 1 1 6 1 5");
        due("years", x.years(1), 1);
        int[][] want = {{1, 1, 2, 0, 0, 0, 0, 0}, {0, 0, 0, 3, 3, 0, 0, 0}, {0, 1, 0, 0, 0, 0, 2, 0}};
        for (int child = 0; child < 3; child++) {
            for (int grown = 0; grown < 8; grown++) {
                due("liking of " + grown + " by " + child, x.pull(child, grown, 0), want[child][grown]);
            }
            due("age of " + child, x.childOf(child, 2), 1);
        }
        due("liking together", x.status(5), 13);
        due("years more", x.years(2), 3);
        due("liking together after three", x.status(5), 39);
        due("nobody is dropped", x.status(4), 0);
        due("year", x.status(3), 3);
    }

    private static void yearsLetChooseAtNine() {
        ChosenBackAtNine x = plain(3, 1, 2, 9);
        x.child(1, 0, 0, 1, 2);
        due("years to 8", x.years(8), 8);
        due("nobody is dropped at 8", x.status(4), 0);
        due("years to 9", x.years(1), 9);
        // Liking is 9 each by now, so its own pull 12, 10 and 11, and the stranger 9.
        due("who is dropped at 9", x.grownOf(1, 4) * 10 + x.status(4), 11);
        due("godparents at 9", x.childOf(0, 3), 13);
        due("years to 30", x.years(31), 40);
        due("nobody is dropped later", x.status(4), 1);
        due("age is held", x.childOf(0, 2), 30);
        x.age(0, 9);
        x.years(1);
        due("one who was 9 doesn't choose", x.status(4), 1);
        x.age(0, 8);
        x.years(1);
        due("one who is made younger chooses again", x.status(4), 2);
    }

    private static void yearsByNumbers() {
        // The miller of pull 4 is given up by the first child; of pull 2 then the second doesn't take him.
        ChosenBackAtNine x = Check.told("grown 0 0 0 9;grown 0 0 0 8;grown 3 1 9 0;grown 0 0 0 3;grown 0 0 0 2",
                "child 1 0 0 1 2;child 1 0 0 1 4;age 0 8;age 1 8");
        due("years: whom the second would take", x.chooses(1, 2), 2);
        due("years: whom the first gives up", x.chooses(0, 0), 2);
        x.years(1);
        due("years: the first's godparents", x.childOf(0, 3), 11);
        due("years: the second's godparents", x.childOf(1, 3), 11);
        due("years: dropped", x.grownOf(2, 4) * 10 + x.grownOf(4, 4), 11);
        // By turned numbers the miller is taken ahead of being dropped.
        ChosenBackAtNine y = Check.told("grown 0 0 0 9;grown 0 0 0 8;grown 3 1 9 0;grown 0 0 0 3;grown 0 0 0 2",
                "child 1 0 0 1 4;child 1 0 0 1 2;age 0 8;age 1 8");
        y.years(1);
        due("years: the first's godparents, turned", y.childOf(0, 3), 7);
        due("years: the second's godparents, turned", y.childOf(1, 3), 11);
    }

    private static void yearsWhereNobodyIsTaken() {
        ChosenBackAtNine x = plain(3, 1, 2);
        x.child(1, 0, 0, 1, 2);
        due("years of three alone", x.years(10), 10);
        due("years of three alone: godparents", x.childOf(0, 3), 7);
        due("years of three alone: dropped", x.status(4), 0);
        due("years refuse nothing", Check.allRefusals(x), 0);
        ChosenBackAtNine y = new ChosenBackAtNine();
        due("years of nobody", y.years(40), 40);
        due("years of nobody more", y.years(40), 80);
    }

    private static void yearsAreHeld() {
        ChosenBackAtNine x = plain(9, 0, 4, 0);
        x.child(0, 9, 0, 1, 2);
        x.gift(0, 0, 10);
        x.gift(0, 1, 11);
        x.years(2);
        due("years: liking", x.pull(0, 0, 0), 96);
        due("years: liking held to 99", x.pull(0, 1, 0), 99);
        x.years(2);
        due("years: liking by threes held to 99", x.pull(0, 0, 0), 99);
        due("years: liking by twos", x.pull(0, 2, 0), 8);
        x.age(0, 30);
        x.years(1);
        due("years: age held to 30", x.childOf(0, 2), 30);
    }

    private static void yearsAreRefused() {
        ChosenBackAtNine x = plain(3, 1, 2, 9);
        x.child(1, 0, 0, 1, 2);
        due("years 0", x.years(0), -6);
        due("years -1", x.years(-1), -6);
        due("years 41", x.years(41), -6);
        due("years low", x.years(LOW), -6);
        due("years high", x.years(HIGH), -6);
        due("years: none passed", x.status(3) + x.childOf(0, 2), 0);
        due("years refusals", Check.refusals(x, -6), 5);
        due("years 40", x.years(40), 40);
    }

    /** The draws as the document tells them. */
    private static int next(int seed) {
        return seed * 1103515245 + 12345;
    }

    private static int below(int seed, int n) {
        return (seed >>> 16) % n;
    }

    private static void drawn() {
        ChosenBackAtNine x = plain(0, 1, 2, 3, 0);
        for (int child = 0; child < 3; child++) {
            x.child(0, child + 1, 0, 1, 2);
        }
        int[] seeds = {1, 7, -5, LOW, HIGH, 12345};
        for (int seed : seeds) {
            x.image();
            x.seed(seed);
            int one = next(seed);
            int two = next(one);
            int three = next(two);
            int grown = below(one, 5);
            int child = below(two, 3);
            int gifts = 1 + below(three, 3);
            due("drawn 1 by " + seed, x.drawn(1), 0);
            due("seed after " + seed, x.status(6), three);
            int yearly = grown < 3 ? 1 : 0;
            due("gifts by " + seed, x.pull(child, grown, 0), gifts * (child + 1) + yearly);
            due("liking together by " + seed, x.status(5), gifts * (child + 1) + 9);
            due("year by " + seed, x.status(3), 1);
            x.restore();
        }
        x.seed(1);
        due("drawn 40: all dropped", x.drawn(40), 3);
        due("drawn 40: year", x.status(3), 40);
        int seed = 1;
        for (int i = 0; i < 120; i++) {
            seed = next(seed);
        }
        due("drawn 40: seed", x.status(6), seed);
    }

    private static void drawnOfTheDead() {
        ChosenBackAtNine x = Check.told("grown 4 0 0 9;grown 4 0 0 9;grown 4 0 0 9;child 1 9 0 1 2");
        due("drawn of the dead", x.drawn(5), 0);
        due("drawn of the dead: liking", x.status(5), 0);
        int seed = 1;
        for (int i = 0; i < 15; i++) {
            seed = next(seed);
        }
        due("drawn of the dead: the draws come", x.status(6), seed);
    }

    private static void drawnIsRefused() {
        ChosenBackAtNine x = new ChosenBackAtNine();
        due("drawn of nobody", x.drawn(0), -5);
        x.grown(0, 0, 0, 0);
        x.grown(0, 0, 0, 0);
        x.grown(0, 0, 0, 0);
        due("drawn of no children", x.drawn(41), -5);
        x.child(1, 1, 0, 1, 2);
        due("drawn 0", x.drawn(0), -6);
        due("drawn -1", x.drawn(-1), -6);
        due("drawn 41", x.drawn(41), -6);
        due("drawn: no draws came", x.status(6), 1);
        due("drawn: no year", x.status(3), 0);
        due("drawn refusals -5", Check.refusals(x, -5), 2);
        due("drawn refusals -6", Check.refusals(x, -6), 3);
    }

    private static void seed() {
        ChosenBackAtNine x = new ChosenBackAtNine();
        due("seed", x.seed(LOW), 1);
        due("seed then", x.seed(-1), LOW);
        due("seed -1", x.seed(0), -1);
        due("seed 0", x.seed(HIGH), 0);
        due("seed is", x.status(6), HIGH);
        due("seed refuses nothing", Check.allRefusals(x), 0);
    }

    /** Number g is of kind g; a of 3. */
    private static ChosenBackAtNine oneOfEachKind() {
        ChosenBackAtNine x = new ChosenBackAtNine();
        for (int kind = 0; kind <= 6; kind++) {
            x.grown(kind, 3, 0, 0);
        }
        return x;
    }

    private static void dueAct(ChosenBackAtNine x, int grown, int move, int arg, int want, int... bodies) {
        String call = "act " + grown + " " + move + " " + arg;
        due(call, x.act(grown, move, arg), want);
        due(call + ": how many bodies", x.status(7), bodies.length);
        for (int i = 0; i < bodies.length; i++) {
            due(call + ": body " + i, x.trace(i), bodies[i]);
        }
        due(call + ": no more bodies", x.trace(bodies.length), -1);
    }

    private static void actOfKinds() {
        ChosenBackAtNine x = oneOfEachKind();
        dueAct(x, 0, 0, 50, 50, 10);
        dueAct(x, 0, 1, 50, 100, 11, 10);
        dueAct(x, 0, 2, 50, 100 ^ 47, 12, 11, 10, 10);
        dueAct(x, 1, 0, 50, 54, 20, 10);
        dueAct(x, 1, 1, 50, 108, 11, 20, 10);
        dueAct(x, 1, 2, 50, 108 ^ 51, 12, 11, 20, 10, 20, 10);
        dueAct(x, 2, 0, 50, 52, 10);
        dueAct(x, 2, 1, 50, 312, 30, 11, 10);
        dueAct(x, 2, 2, 50, 312 ^ 49, 12, 30, 11, 10, 10);
        dueAct(x, 3, 0, 50, 56, 20, 10);
        dueAct(x, 3, 1, 50, 114, 40, 11, 20, 10);
        dueAct(x, 3, 2, 50, 114 ^ 53, 12, 40, 11, 20, 10, 20, 10);
        dueAct(x, 4, 0, 50, 50, 51, 10);
        dueAct(x, 4, 1, 50, 100, 11, 51, 10);
        dueAct(x, 4, 2, 50, -(100 ^ 47), 50, 12, 11, 51, 10, 51, 10);
        dueAct(x, 5, 0, 50, 55, 10);
        dueAct(x, 5, 1, 50, 330, 30, 11, 10);
        dueAct(x, 5, 2, 50, 330 ^ 52 ^ 5, 60, 12, 30, 11, 10, 10);
        dueAct(x, 6, 0, 50, 118, 70, 20, 10);
        dueAct(x, 6, 1, 50, 2 * 2 * (50 - 3 + 1 + 6 + 3), 71, 40, 11, 70, 20, 10);
        dueAct(x, 6, 2, 50, 228 ^ 112, 12, 71, 40, 11, 70, 20, 10, 70, 20, 10);
        due("act refuses nothing", Check.allRefusals(x), 0);
    }

    private static void actWraps() {
        ChosenBackAtNine x = oneOfEachKind();
        due("plays wraps", x.act(1, 0, HIGH), LOW + 3);
        due("gives wraps", x.act(0, 1, LOW), 0);
        due("gives of a thief wraps", x.act(2, 1, HIGH), (HIGH + 2) * 6);
        due("bows wraps", x.act(0, 2, LOW), LOW - 3);
        due("plays of one paid wraps", x.act(6, 0, HIGH), (HIGH + 9) * 2);
    }

    private static void actOfNobody() {
        ChosenBackAtNine x = oneOfEachKind();
        int[][] calls = {{7, 0}, {-1, 0}, {0, 3}, {0, -1}, {LOW, HIGH}};
        for (int[] call : calls) {
            x.act(6, 2, 1);
            due("act " + call[0] + " " + call[1], x.act(call[0], call[1], 9), 0);
            due("act of nobody: bodies", x.status(7), 0);
            due("act of nobody: trace", x.trace(0), -1);
        }
        due("act of nobody refuses nothing", Check.allRefusals(x), 0);
    }

    private static void trace() {
        ChosenBackAtNine x = oneOfEachKind();
        x.act(6, 2, 1);
        due("trace -1", x.trace(-1), -1);
        due("trace low", x.trace(LOW), -1);
        due("trace 9", x.trace(9), 10);
        due("trace 10", x.trace(10), -1);
        due("trace 20", x.trace(20), -1);
        due("trace high", x.trace(HIGH), -1);
        x.act(0, 0, 1);
        due("trace of the latest", x.trace(0), 10);
        due("trace of the latest alone", x.trace(1), -1);
        x.years(1);
        due("trace stays", x.trace(0), 10);
        due("trace refuses nothing", Check.allRefusals(x), 0);
    }

    private static void image() {
        ChosenBackAtNine x = Check.told("grown 0 0 0 3;grown 1 1 5 1;grown 4 2 9 2;grown 3 3 60 9;child 1 2 0 1 2;flood 4");
        x.age(0, 5);
        x.gift(0, 3, 2);
        x.choose(0);
        x.years(2);
        x.seed(77);
        long before = all(x);
        due("image", x.image(), 4);
        x.grown(6, 0, 0, 0);
        x.child(3, 3, 4, 0, 1);
        x.flood(9);
        x.age(0, 8);
        x.gift(0, 4, 9);
        x.gift(1, 4, 3);
        x.years(3);
        x.drawn(20);
        x.choose(1);
        x.act(0, 1, 5);
        x.flood(10);
        Check.putText(x, 0, 0, "flood");
        x.parish(0);
        due("restore", x.restore(), 4);
        due("all is as it was", all(x), before);
        due("the trace isn't of it", x.status(7) * 100 + x.trace(0), 211);
        due("refusals aren't of it", Check.allRefusals(x), 2);
        due("the fault isn't of it", x.fault(), 5);
        due("the row isn't of it", x.element(0, 0), 'f');
        due("a grown one after restore", x.grown(0, 1, 1, 1), 4);
        due("a child after restore", x.child(0, 0, 4, 0, 1), 1);
        due("new of the child", x.childOf(1, 2) + x.pull(1, 4, 0) + x.pull(0, 4, 0) + x.grownOf(4, 4), 0);
        due("restore again", x.restore(), 4);
        due("all is as it was again", all(x), before);
        x.years(1);
        due("image anew", x.image(), 4);
        long after = all(x);
        x.years(1);
        x.restore();
        due("all is as the later image", all(x), after);
    }

    private static void imageOfShelves() {
        ChosenBackAtNine x = plain(0, 1, 2);
        due("restore without image", x.restore(), -6);
        due("restore refusals", Check.refusals(x, -6), 1);
        x.show(0, 2);
        due("image of three", x.image(), 3);
        x.grown(0, 0, 0, 0);
        x.grown(0, 0, 0, 0);
        x.show(0, -1);
        x.show(1, 2);
        x.show(2, 3);
        x.show(3, 4);
        x.row(4, 2, 7);
        x.set(4, 0, 99);
        due("restore three", x.restore(), 3);
        int[] want = {-1, 2, -1, -1, 102, -1, -1, -1};
        for (int s = 0; s < 8; s++) {
            due("restored: holds " + s, x.holds(s), want[s]);
        }
        due("restored: a row is kept", x.element(4, 0), 99);
        due("restored: says of nothing", x.says(2, 0), -3);
        ChosenBackAtNine y = new ChosenBackAtNine();
        due("image of nobody", y.image(), 0);
        y.grown(0, 0, 0, 0);
        y.show(0, 0);
        due("restore nobody", y.restore(), 0);
        due("restored: nobody is shown", y.holds(0), -1);
    }

    private static long all(ChosenBackAtNine x) {
        long all = 0;
        for (int what = 0; what < 7; what++) {
            all = 31 * all + x.status(what);
        }
        for (int child = 0; child < x.status(1); child++) {
            for (int what = 0; what < 4; what++) {
                all = 31 * all + x.childOf(child, what);
            }
            for (int grown = 0; grown < x.status(0); grown++) {
                all = 31 * all + x.pull(child, grown, 0);
            }
        }
        for (int grown = 0; grown < x.status(0); grown++) {
            for (int what = 0; what < 7; what++) {
                all = 31 * all + x.grownOf(grown, what);
            }
        }
        return all;
    }

    private static void status() {
        ChosenBackAtNine x = Check.told("grown 0 0 0 3;grown 1 1 5 1;grown 4 2 9 2;grown 3 3 60 9;child 1 2 0 1 2;child 2 1 0 1 3");
        x.flood(7);
        x.years(2);
        x.gift(1, 3, 6);
        x.choose(0);
        x.choose(1);
        x.seed(-9);
        x.act(3, 1, 1);
        int[] want = {4, 2, 7, 2, 2, 20, -9, 4};
        for (int what = 0; what < 8; what++) {
            due("status " + what, x.status(what), want[what]);
        }
        int[] others = {-1, 8, 9, 10, 18, 19, LOW, HIGH, -11, -17};
        for (int what : others) {
            due("status " + what, x.status(what), -1);
        }
        due("status refuses nothing", Check.allRefusals(x), 0);
    }

    private static void statusOfRefusals() {
        ChosenBackAtNine x = plain(0, 0, 0);
        x.show(0, 0);
        for (int i = 0; i < 1; i++) {
            x.row(8, 0, 0);
        }
        for (int i = 0; i < 2; i++) {
            x.set(0, 0, 0);
        }
        for (int i = 0; i < 3; i++) {
            x.set(1, 0, 0);
        }
        for (int i = 0; i < 4; i++) {
            x.row(1, 0, -1);
        }
        for (int i = 0; i < 5; i++) {
            x.favourite(9);
        }
        for (int i = 0; i < 6; i++) {
            x.flood(-1);
        }
        for (int i = 0; i < 7; i++) {
            x.row(1, 0, 161);
        }
        for (int number = 1; number <= 7; number++) {
            due("status " + (10 + number), x.status(10 + number), number);
        }
        x.child(0, 0, 0, 1, 2);
        x.chooses(5, 0);
        due("a -11 is counted as -1", x.status(11), 2);
        x.judge(0, 0);
        due("a -12 is counted as -2", x.status(12), 3);
        x.judge(1, 0);
        due("a -13 is counted as -3", x.status(13), 4);
        x.woo(0, 0, 3);
        due("a -15 is counted as -5", x.status(15), 6);
        x.grown(4, 0, 0, 0);
        x.woo(3, 0, 0);
        due("a -16 is counted as -6", x.status(16), 7);
    }
}
