/** Promises 30 to 38. */
final class OfYears extends Part {
    OfYears(Sentences sentences) {
        super(sentences);
    }

    @Override
    void ask() {
        promise30();
        promise31();
        promise32();
        promise33();
        promise34();
        promise35();
        promise36();
        promise37();
        promise38();
        promise38OfRefusals();
        calls512();
    }

    private void promise30() {
        String p = "Promise 30";
        asks(p, "`int choose(int child)`: A CHILD chooses in truth: whom it TAKES.");
        ChosenBackAtNine x = small();
        due("choose(0)", x.choose(0), 3);
        due("its godparents", x.childOf(0, 3), 11);
        due("dropped", x.grownOf(2, 4), 1);
        due("its age", x.childOf(0, 2), 0);
        due("the year", x.status(3), 0);
        due("choose(1)", x.choose(1), 4);
        due("its godparents", x.childOf(1, 3), 26);
        due("dropped again", x.grownOf(2, 4), 2);
        asks(p, "-1;");
        for (int c : NO_CHILD) {
            refused(-1, "choose(" + c + ")", y -> y.choose(c));
        }
        refused(ChosenBackAtNine::new, -1, "choose(0) of nobody", y -> y.choose(0));
        asks(p, "-6 nobody to TAKE.");
        refused(Part::three, -6, "choose(0) of three alone", y -> y.choose(0));
    }

    private void promise31() {
        String p = "Promise 31";
        asks(p, "`int years(int n)`: YEARS in truth, n (1 to 40): YEAR.");
        ChosenBackAtNine x = small();
        due("years(1)", x.years(1), 1);
        due("ages", x.childOf(0, 2) * 100 + x.childOf(1, 2), 108);
        due("years(40)", x.years(40), 41);
        due("ages held", x.childOf(0, 2) * 100 + x.childOf(1, 2), 3030);
        due("both have chosen", x.status(4), 2);
        due("years of nobody", new ChosenBackAtNine().years(40), 40);
        asks(p, "-6.");
        for (int n : new int[] {0, -1, 41, LOW, HIGH}) {
            refused(-6, "years(" + n + ")", y -> y.years(n));
        }
    }

    private void promise32() {
        String p = "Promise 32";
        asks(p, "`int drawn(int n)`: YEARS by draws, n (1 to 40): all DROPPED together.");
        ChosenBackAtNine x = small();
        due("drawn(1)", x.drawn(1), 0);
        due("year", x.status(3), 1);
        due("drawn(40)", x.drawn(40), 2);
        due("year", x.status(3), 41);
        int seed = 99;
        for (int i = 0; i < 3 * 41; i++) {
            seed = seed * 1103515245 + 12345;
        }
        due("three draws a year", x.status(6), seed);
        asks(p, "-5 no GROWN ones, no CHILDREN;");
        refused(ChosenBackAtNine::new, -5, "drawn(1) of nobody", y -> y.drawn(1));
        refused(() -> plain(1, 2, 3), -5, "drawn(1) without children", y -> y.drawn(1));
        refused(() -> plain(1, 2, 3), -5, "drawn(41) without children", y -> y.drawn(41));
        asks(p, "-6.");
        for (int n : new int[] {0, -1, 41, LOW, HIGH}) {
            refused(-6, "drawn(" + n + ")", y -> y.drawn(n));
        }
    }

    private void promise33() {
        asks("Promise 33", "`int seed(int v)`: SEED becomes v: what it was (nothing is refused).");
        ChosenBackAtNine x = new ChosenBackAtNine();
        int[] seeds = {LOW, -1, 0, HIGH, 1};
        int was = 1;
        for (int v : seeds) {
            due("seed(" + v + ")", x.seed(v), was);
            due("it is", x.status(6), v);
            was = v;
        }
        due("nothing is refused", Check.allRefusals(x), 0);
    }

    private void promise34() {
        String p = "Promise 34";
        asks(p, "`int act(int grown, int move, int x)`: A MOVE of a GROWN one with x.");
        ChosenBackAtNine x = small();
        due("act(0, 0, 5)", x.act(0, 0, 5), 5);
        due("act(1, 0, 5)", x.act(1, 0, 5), 9);
        due("act(1, 1, 5)", x.act(1, 1, 5), 18);
        due("act(4, 2, 5)", x.act(4, 2, 5), 54 ^ 7 ^ 5);
        due("act(6, 2, 5)", x.act(6, 2, 5), -(10 ^ 0));
        due("refusals", Check.allRefusals(x), 0);
        asks(p, "0, and no TRACE then: no such one, move.");
        for (int g : NO_GROWN) {
            noAct(g, 0);
        }
        for (int move : new int[] {-1, 3, LOW, HIGH}) {
            noAct(0, move);
        }
    }

    private void noAct(int grown, int move) {
        ChosenBackAtNine x = small();
        String before = parish(x);
        String call = "act(" + grown + ", " + move + ", 5)";
        due("a trace ahead of " + call, x.trace(0), 11);
        due(call, x.act(grown, move, 5), 0);
        due("no trace", x.trace(0), -1);
        due("no bodies", x.status(7), 0);
        due("no refusal", Check.allRefusals(x), 0);
        due("nothing changed", parish(x).equals(before) ? 1 : 0, 1);
    }

    private void promise35() {
        String p = "Promise 35";
        asks(p, "`int trace(int i)`: THE TRACE's i-th body.");
        ChosenBackAtNine x = small();
        int[] want = {11, 20, 10};
        for (int i = 0; i < 3; i++) {
            due("trace(" + i + ")", x.trace(i), want[i]);
        }
        asks(p, "NONE: none such.");
        for (int i : new int[] {-1, 3, 19, 20, 21, LOW, HIGH}) {
            onlyTold(-1, "trace(" + i + ")", y -> y.trace(i));
        }
        due("trace(0) when none acted yet", new ChosenBackAtNine().trace(0), -1);
    }

    private void promise36() {
        String p = "Promise 36";
        asks(p, "`int image()`: THE IMAGE of all but SHELVES (and THE IMAGE, REFUSALS, the FAULT, THE TRACE) is taken: "
                + "how many GROWN ones.");
        due("of nobody", new ChosenBackAtNine().image(), 0);
        due("of eight", full().image(), 8);
        ChosenBackAtNine x = small();
        String before = parish(x);
        due("of seven", x.image(), 7);
        x.grown(0, 0, 0, 0);
        x.child(0, 0, 0, 1, 7);
        x.gift(0, 0, 3);
        x.drawn(20);
        x.flood(9);
        x.flood(10);
        x.set(6, 1, 77);
        x.act(0, 0, 5);
        Check.putText(x, 0, 0, "flood 10");
        x.parish(0);
        x.restore();
        due("all of the parish is as it was", parish(x).equals(before) ? 1 : 0, 1);
        due("shelves are not of it", x.element(6, 1) + x.holds(0), 177);
        due("refusals are not of it", Check.refusals(x, -6), 2);
        due("the fault is not of it", x.fault(), 6);
        due("the trace is not of it", x.trace(0) * 10 + x.status(7), 101);
        due("the image itself stays", x.restore(), 7);
    }

    private void promise37() {
        String p = "Promise 37";
        asks(p, "`int restore()`: All is as THE IMAGE has it;");
        ChosenBackAtNine x = full();
        String before = parish(x);
        x.years(40);
        x.seed(5);
        x.flood(5);
        due("restore()", x.restore(), 8);
        due("all is", parish(x).equals(before) ? 1 : 0, 1);
        x.choose(0);
        due("restore() again", x.restore(), 8);
        due("all is again", parish(x).equals(before) ? 1 : 0, 1);
        x.years(1);
        due("a later image", x.image(), 8);
        x.years(1);
        x.restore();
        due("the later counts", x.status(3), 1);
        ChosenBackAtNine y = small();
        y.restore();
        due("who came later is gone", y.grownOf(5, 0), -5);
        due("his number is for another", y.grown(1, 2, 3, 4), 5);
        due("who has nothing of him", y.pull(0, 5, 0) + y.grownOf(5, 4) + y.grownOf(5, 5), 0);
        ChosenBackAtNine alone = three();
        alone.image();
        alone.grown(0, 0, 0, 9);
        choice(alone, 0, 0, 2, 3);
        alone.restore();
        choice(alone, 0, -1, 2, -1);
        asks(p, "SHELVES with GROWN ones hold those of these numbers, or NOTHING:");
        ChosenBackAtNine z = small();
        int[] shown = {5, 4, 1, -1, 6, 0, 3, 6};
        int[] want = {-1, 4, 1, -1, -1, 0, 3, -1};
        for (int s = 0; s < 8; s++) {
            z.show(s, shown[s]);
        }
        z.restore();
        for (int s = 0; s < 8; s++) {
            due("holds(" + s + ")", z.holds(s), want[s]);
        }
        ChosenBackAtNine rows = small();
        rows.restore();
        due("rows stay", rows.holds(0) * 1000 + rows.element(0, 1), 100010);
        asks(p, "how many GROWN ones.");
        due("of five", small().restore(), 5);
        due("of eight", full().restore(), 8);
        ChosenBackAtNine none = new ChosenBackAtNine();
        none.image();
        none.grown(0, 0, 0, 0);
        due("of none", none.restore(), 0);
        asks(p, "-6 there is none.");
        refused(ChosenBackAtNine::new, -6, "restore() of a new one", y2 -> y2.restore());
        refused(Part::three, -6, "restore() of a parish", y2 -> y2.restore());
    }

    private void promise38() {
        String p = "Promise 38";
        asks(p, "`int status(int what)`: How many: 0 GROWN ones, 1 CHILDREN, 2 FLOOD, 3 YEAR, 4 DROPPED together, "
                + "5 LIKING together, 6 SEED,");
        ChosenBackAtNine x = small();
        x.choose(0);
        x.choose(0);
        x.years(1);
        x.seed(LOW);
        // Child 0 gives up 2 and then 0 for 4: 1, 3 and 4 give it 2, 1 and 1; 1 and 3 give 2 and 1 to child 1.
        int[] want = {7, 2, 2, 1, 2, 15, LOW};
        for (int what = 0; what < 7; what++) {
            due("status(" + what + ")", x.status(what), want[what]);
        }
        asks(p, "7 bodies that ran in the latest act() (all, kept or not);");
        due("none acted yet", new ChosenBackAtNine().status(7), 0);
        x.grown(6, 3, 0, 0);
        x.act(7, 2, 50);
        due("of the longest", x.status(7), 10);
        x.act(0, 0, 50);
        due("of the latest alone", x.status(7), 1);
        asks(p, "NONE for another what.");
        for (int what : new int[] {-1, 8, 9, 10, 18, 19, LOW, HIGH}) {
            onlyTold(-1, "status(" + what + ")", y -> y.status(what));
        }
    }

    private void promise38OfRefusals() {
        String p = "Promise 38";
        asks(p, "11 to 17: REFUSALS -1 to -7.");
        ChosenBackAtNine x = small();
        for (int what = 11; what <= 17; what++) {
            due("status(" + what + ") at first", x.status(what), 0);
        }
        for (int i = 1; i <= 7; i++) {
            refuse(x, i);
        }
        for (int what = 11; what <= 17; what++) {
            due("status(" + what + ")", x.status(what), what - 10);
        }
        x.chooses(9, 0);
        x.judge(2, 0);
        x.judge(3, 0);
        x.trades(9);
        x.woo(2, 0, 0);
        int[] want = {2, 3, 4, 4, 6, 7, 7};
        for (int what = 11; what <= 17; what++) {
            due("status(" + what + ") with -11 and so on", x.status(what), want[what - 11]);
        }
    }

    /** One call that is refused by number -i, i times. */
    private static void refuse(ChosenBackAtNine x, int i) {
        for (int times = 0; times < i; times++) {
            switch (i) {
                case 1: x.row(8, 0, 0); break;
                case 2: x.set(2, 0, 0); break;
                case 3: x.set(3, 0, 0); break;
                case 4: x.row(0, 0, -1); break;
                case 5: x.grownOf(0, 7); break;
                case 6: x.flood(10); break;
                default: x.row(0, 0, 161); break;
            }
        }
    }

    private void calls512() {
        asks("What it is", "An object is used for at most 512 calls after it has been made;");
        ChosenBackAtNine x = new ChosenBackAtNine();
        for (int i = 0; i < 510; i++) {
            x.flood(10);
        }
        due("the 511th", x.flood(9), 0);
        due("the 512th", x.status(16), 510);
        ChosenBackAtNine y = small();
        for (int i = 0; i < 470; i++) {
            y.years(40);
        }
        due("years of as many calls", y.status(3), 18800);
    }
}
