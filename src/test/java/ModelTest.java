import java.util.Random;

/** Many runs of calls, drawn by fixed seeds, asked of the program and of the model alike. */
public final class ModelTest {
    private static final Check CHECK = new Check("ModelTest");
    private static final int RUNS = 1500;
    private static final int CALLS = 300;
    private static final int[] EDGES = {Integer.MIN_VALUE, -100, -2, -1, 99, 160, 161, Integer.MAX_VALUE};
    private static final String SIGNS = "0123456789 ;growncildftaex";

    private final Random random;
    private final ChosenBackAtNine x = new ChosenBackAtNine();
    private final Model model = new Model();
    private final int run;
    private String call = "";

    private ModelTest(int run) {
        this.run = run;
        random = new Random(run);
    }

    public static void main(String[] args) {
        for (int run = 0; run < RUNS && !CHECK.hasWrong(); run++) {
            new ModelTest(run).go();
        }
        CHECK.end();
    }

    private void go() {
        if (random.nextInt(4) > 0) {
            people(3 + random.nextInt(6), random.nextInt(7));
        }
        for (int i = 0; i < CALLS && !CHECK.hasWrong(); i++) {
            step(random.nextInt(100));
            if (i % 25 == 0) {
                all();
            }
        }
        all();
    }

    private void due(long got, long want) {
        CHECK.due("run " + run + ": " + call, got, want);
    }

    /** Below n mostly, a little beyond it or far off at times. */
    private int some(int n) {
        int kind = random.nextInt(60);
        if (kind == 0) {
            return EDGES[random.nextInt(EDGES.length)];
        }
        if (kind == 1) {
            return n;
        }
        return kind == 2 ? -1 : random.nextInt(Math.max(1, n));
    }

    private int someGrown() {
        return some(model.told.grown.size());
    }

    private int someChild() {
        return some(model.told.children.size());
    }

    private String calls(String name, Object... args) {
        StringBuilder s = new StringBuilder(name).append("(");
        for (Object arg : args) {
            s.append(s.length() > name.length() + 1 ? ", " : "").append(arg);
        }
        return s.append(")").toString();
    }

    private void people(int grown, int children) {
        for (int i = 0; i < grown; i++) {
            grownOne();
        }
        for (int i = 0; i < children; i++) {
            childOne();
        }
    }

    private void grownOne() {
        int kind = some(7);
        int a = some(10);
        int means = random.nextBoolean() ? some(61) : some(16);
        int tricks = some(10);
        call = calls("grown", kind, a, means, tricks);
        due(x.grown(kind, a, means, tricks), model.grown(kind, a, means, tricks));
    }

    private void childOne() {
        int taste = some(10);
        int greed = some(10);
        int one = someGrown();
        int two = someGrown();
        int three = someGrown();
        call = calls("child", taste, greed, one, two, three);
        due(x.child(taste, greed, one, two, three), model.child(taste, greed, one, two, three));
    }

    private void step(int kind) {
        if (kind < 20) {
            shelf(kind);
        } else if (kind < 45) {
            people(kind);
        } else if (kind < 80) {
            telling(kind);
        } else {
            truth(kind);
        }
    }

    private void shelf(int kind) {
        int s = some(8);
        int q = some(8);
        int i = some(6);
        int j = some(6);
        int n = some(7);
        if (kind < 3) {
            int sort = some(4);
            call = calls("row", s, sort, n);
            due(x.row(s, sort, n), model.row(s, sort, n));
        } else if (kind < 6) {
            long v = random.nextInt(3) == 0 ? random.nextLong() : random.nextInt(11) - 2;
            call = calls("set", s, i, v);
            due(x.set(s, i, v), model.set(s, i, v));
        } else if (kind < 10) {
            call = calls("copy", s, q, i, j, n);
            due(x.copy(s, q, i, j, n), model.copy(s, q, i, j, n));
        } else if (kind < 12) {
            call = calls("element", s, i);
            due(x.element(s, i), model.element(s, i));
        } else if (kind < 16) {
            int g = someGrown();
            call = calls("show", s, g);
            due(x.show(s, g), model.show(s, g));
        } else if (kind < 17) {
            call = calls("holds", s);
            due(x.holds(s), model.holds(s));
        } else {
            int wanted = some(7);
            call = calls("says", s, wanted);
            due(x.says(s, wanted), model.says(s, wanted));
        }
    }

    private void people(int kind) {
        int g = someGrown();
        int c = someChild();
        if (kind < 22) {
            grownOne();
        } else if (kind < 24) {
            childOne();
        } else if (kind < 26) {
            int v = some(10);
            call = calls("flood", v);
            due(x.flood(v), model.flood(v));
        } else if (kind < 28) {
            int v = some(31);
            call = calls("age", c, v);
            due(x.age(c, v), model.age(c, v));
        } else if (kind < 32) {
            int n = some(21);
            call = calls("gift", c, g, n);
            due(x.gift(c, g, n), model.gift(c, g, n));
        } else if (kind < 34) {
            int what = some(7);
            call = calls("grownOf", g, what);
            due(x.grownOf(g, what), model.grownOf(g, what));
        } else if (kind < 36) {
            int what = some(4);
            call = calls("childOf", c, what);
            due(x.childOf(c, what), model.childOf(c, what));
        } else if (kind < 40) {
            int what = some(2);
            call = calls("pull", c, g, what);
            due(x.pull(c, g, what), model.pull(c, g, what));
        } else {
            text();
        }
    }

    private void telling(int kind) {
        int g = someGrown();
        int h = someGrown();
        int c = someChild();
        int what = some(2);
        if (kind < 50) {
            int w = some(3);
            call = calls("chooses", c, w);
            due(x.chooses(c, w), model.chooses(c, w));
        } else if (kind < 54) {
            int w = some(4);
            call = calls("by", g, w);
            due(x.by(g, w), model.by(g, w));
        } else if (kind < 56) {
            call = calls("favourite", what);
            due(x.favourite(what), model.favourite(what));
        } else if (kind < 58) {
            call = calls("picks", c);
            due(x.picks(c), model.picks(c));
        } else if (kind < 63) {
            call = calls("woo", g, c, what);
            due(x.woo(g, c, what), model.woo(g, c, what));
        } else if (kind < 68) {
            call = calls("two", g, h, c, what);
            due(x.two(g, h, c, what), model.two(g, h, c, what));
        } else if (kind < 71) {
            tastes(c, g, h);
        } else if (kind < 73) {
            call = calls("trades", what);
            due(x.trades(what), model.trades(what));
        } else if (kind < 76) {
            int n = some(21);
            call = calls("ahead", g, n, what);
            due(x.ahead(g, n, what), model.ahead(g, n, what));
        } else if (kind < 79) {
            judge(c);
        } else {
            call = calls("ninth", c);
            due(x.ninth(c), model.ninth(c));
        }
    }

    private void tastes(int c, int g, int h) {
        int t = someGrown();
        if (random.nextInt(4) > 0 && model.isChild(c)) {
            int[] choice = model.told.choice(c);
            g = choice[0];
            h = choice[1];
            t = choice[2];
        }
        call = calls("tastes", c, g, h, t);
        due(x.tastes(c, g, h, t), model.tastes(c, g, h, t));
    }

    private void judge(int c) {
        int s = some(8);
        if (random.nextInt(3) > 0 && model.isChild(c)) {
            int[] choice = model.told.choice(c);
            int sort = some(4);
            int n = 3 + random.nextInt(2);
            call = calls("row", s, sort, n);
            due(x.row(s, sort, n), model.row(s, sort, n));
            for (int i = 0; i < 3; i++) {
                long v = random.nextInt(8) == 0 ? some(8) : choice[i] + ((long) random.nextInt(2) << 32);
                call = calls("set", s, i, v);
                due(x.set(s, i, v), model.set(s, i, v));
            }
        }
        call = calls("judge", s, c);
        due(x.judge(s, c), model.judge(s, c));
    }

    private void truth(int kind) {
        int c = someChild();
        if (kind < 83) {
            call = calls("choose", c);
            due(x.choose(c), model.choose(c));
        } else if (kind < 86) {
            int n = random.nextInt(4) > 0 ? some(4) : some(41);
            call = calls("years", n);
            due(x.years(n), model.years(n));
        } else if (kind < 88) {
            int n = random.nextInt(4) > 0 ? some(4) : some(41);
            call = calls("drawn", n);
            due(x.drawn(n), model.drawn(n));
        } else if (kind < 89) {
            int v = random.nextInt();
            call = calls("seed", v);
            due(x.seed(v), model.seed(v));
        } else if (kind < 93) {
            int g = someGrown();
            int move = some(3);
            int v = random.nextInt();
            call = calls("act", g, move, v);
            due(x.act(g, move, v), model.act(g, move, v));
        } else if (kind < 95) {
            int i = some(21);
            call = calls("trace", i);
            due(x.trace(i), model.trace(i));
        } else if (kind < 96) {
            call = "image()";
            due(x.image(), model.image());
        } else if (kind < 97) {
            call = "restore()";
            due(x.restore(), model.restore());
        } else {
            int what = some(19);
            call = calls("status", what);
            due(x.status(what), model.status(what));
        }
    }

    // ---- texts

    private String item() {
        int g = model.told.grown.size() + random.nextInt(2);
        int c = model.told.children.size() + random.nextInt(2);
        switch (random.nextInt(6)) {
            case 0:
                return "grown " + number(7) + " " + number(10) + " " + number(61) + " " + number(10);
            case 1:
                return "child " + number(10) + " " + number(10) + " " + number(g) + " " + number(g) + " " + number(g);
            case 2:
            case 3:
                return "gift " + number(c) + " " + number(g) + " " + number(21);
            case 4:
                return "age " + number(c) + " " + number(31);
            default:
                return "flood " + number(10);
        }
    }

    private String number(int below) {
        int n = random.nextInt(40) == 0 ? random.nextInt(130) : random.nextInt(Math.max(1, below));
        return (n < 10 && random.nextInt(8) == 0 ? "0" : "") + n;
    }

    private void text() {
        StringBuilder text = new StringBuilder(item());
        for (int more = random.nextInt(6); more > 0; more--) {
            text.append(';').append(item());
        }
        if (random.nextInt(3) == 0) {
            spoil(text);
        }
        text.setLength(Math.min(160, text.length()));
        int s = some(8);
        int sort = random.nextInt(4);
        call = calls("row", s, sort, text.length());
        due(x.row(s, sort, text.length()), model.row(s, sort, text.length()));
        for (int i = 0; i < text.length(); i++) {
            long v = text.charAt(i) + (random.nextInt(2000) == 0 ? 1L << random.nextInt(64) : 0);
            x.set(s, i, v);
            model.set(s, i, v);
        }
        call = "parish of " + text + " in sort " + sort;
        due(x.parish(s), model.parish(s));
        call = "fault of " + text + " in sort " + sort;
        due(x.fault(), model.fault);
    }

    private void spoil(StringBuilder text) {
        int place = random.nextInt(text.length());
        char sign = SIGNS.charAt(random.nextInt(SIGNS.length()));
        switch (random.nextInt(4)) {
            case 0:
                text.setLength(place);
                break;
            case 1:
                text.setCharAt(place, sign);
                break;
            case 2:
                text.deleteCharAt(place);
                break;
            default:
                text.insert(place, sign);
                break;
        }
    }

    // ---- everything there is

    private void all() {
        call = "fault()";
        due(x.fault(), model.fault);
        for (int what = 0; what < 19; what++) {
            call = calls("status", what);
            due(x.status(what), model.status(what));
        }
        for (int s = 0; s < 8; s++) {
            call = calls("holds", s);
            due(x.holds(s), model.holds(s));
        }
        for (int g = 0; g < model.told.grown.size(); g++) {
            for (int what = 0; what < 7; what++) {
                call = calls("grownOf", g, what);
                due(x.grownOf(g, what), model.grownOf(g, what));
            }
        }
        for (int c = 0; c < model.told.children.size(); c++) {
            for (int what = 0; what < 4; what++) {
                call = calls("childOf", c, what);
                due(x.childOf(c, what), model.childOf(c, what));
            }
            for (int g = 0; g < model.told.grown.size(); g++) {
                call = calls("pull", c, g, 1);
                due(x.pull(c, g, 1), model.pull(c, g, 1));
            }
            call = calls("picks", c);
            due(x.picks(c), model.picks(c));
        }
    }
}
