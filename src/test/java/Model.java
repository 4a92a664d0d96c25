import java.util.ArrayList;
import java.util.Arrays;
import java.util.Comparator;
import java.util.List;
import java.util.TreeSet;

/**
 * The document once more, written another way and with no thought for speed: PICKS by trying all partings,
 * moves by a class for each kind, choices by sorting. ModelTest asks it and the program the same.
 */
final class Model {
    static final int NONE = -1;
    private static final int[] ABOVE = {-1, 0, 0, 1, 0, 2, 3};

    static final class Grown {
        int kind;
        int a;
        int means;
        int tricks;
        int dropped;

        Grown twin() {
            Grown g = new Grown();
            g.kind = kind;
            g.a = a;
            g.means = means;
            g.tricks = tricks;
            g.dropped = dropped;
            return g;
        }
    }

    static final class Child {
        int taste;
        int greed;
        int age;
        TreeSet<Integer> three = new TreeSet<>();
        int[] liking = new int[8];

        Child twin() {
            Child c = new Child();
            c.taste = taste;
            c.greed = greed;
            c.age = age;
            c.three = new TreeSet<>(three);
            c.liking = liking.clone();
            return c;
        }
    }

    static final class Row {
        int sort;
        long[] elements;
    }

    static final class Told {
        List<Grown> grown = new ArrayList<>();
        List<Child> children = new ArrayList<>();
        int flood = 0;
        int year = 0;
        int seed = 1;

        Told twin() {
            Told t = new Told();
            for (Grown g : grown) {
                t.grown.add(g.twin());
            }
            for (Child c : children) {
                t.children.add(c.twin());
            }
            t.flood = flood;
            t.year = year;
            t.seed = seed;
            return t;
        }

        int pull(int child, int who) {
            Child c = children.get(child);
            Grown g = grown.get(who);
            return Math.max(0, pullOfKind(g.kind, c, g, c.liking[who]));
        }

        private int pullOfKind(int kind, Child c, Grown g, int liking) {
            switch (kind) {
                case 0: return liking + g.tricks * c.taste;
                case 1: return pullOfKind(0, c, g, liking) + g.a;
                case 2: return pullOfKind(0, c, g, liking) + (c.taste > c.greed ? 3 * g.a : 0);
                case 3: return pullOfKind(1, c, g, liking) + g.means / 3 - 2 * g.dropped;
                case 4: return liking + c.age;
                case 5: return pullOfKind(2, c, g, liking) + flood * g.a;
                default: return g.means >= 5 ? 0 : pullOfKind(3, c, g, liking);
            }
        }

        /** Given up, kept, taken. */
        int[] choice(int child) {
            Child c = children.get(child);
            Comparator<Integer> byPull = Comparator.comparing(g -> pull(child, g));
            List<Integer> own = new ArrayList<>(c.three);
            // A stable sort from the greatest on: of alike the first stands first and the last stands last.
            own.sort(byPull.reversed());
            List<Integer> others = new ArrayList<>();
            for (int g = 0; g < grown.size(); g++) {
                if (!c.three.contains(g)) {
                    others.add(g);
                }
            }
            others.sort(byPull.reversed());
            if (others.isEmpty()) {
                return new int[] {NONE, own.get(0), NONE};
            }
            return new int[] {own.get(2), own.get(0), others.get(0)};
        }

        int letChoose(int child) {
            int[] choice = choice(child);
            if (choice[2] != NONE) {
                children.get(child).three.remove(choice[0]);
                children.get(child).three.add(choice[2]);
                Grown out = grown.get(choice[0]);
                out.dropped = Math.min(99, out.dropped + 1);
            }
            return choice[2];
        }

        void pass() {
            for (Child c : children) {
                c.age = Math.min(30, c.age + 1);
                for (int g : c.three) {
                    if (grown.get(g).kind != 4) {
                        c.liking[g] = Math.min(99, c.liking[g] + 1 + grown.get(g).tricks / 4);
                    }
                }
            }
            for (int c = 0; c < children.size(); c++) {
                if (children.get(c).age == 9) {
                    letChoose(c);
                }
            }
            year++;
        }

        int draw(int n) {
            seed = seed * 1103515245 + 12345;
            return ((seed >> 16) & 0xFFFF) % n;
        }

        void give(int child, int who, int n) {
            Child c = children.get(child);
            c.liking[who] = Math.min(99, c.liking[who] + n * c.greed);
        }

        int charge(int who) {
            return (int) children.stream().filter(c -> c.three.contains(who)).count();
        }

        int chargeThen(int who) {
            Told then = new Told();
            for (int c = 0; c < children.size(); c++) {
                int[] choice = choice(c);
                Child twin = children.get(c).twin();
                if (choice[2] != NONE) {
                    twin.three.remove(choice[0]);
                    twin.three.add(choice[2]);
                }
                then.children.add(twin);
            }
            return then.charge(who);
        }
    }

    Told told = new Told();
    Told image = null;
    final Object[] shelves = new Object[8];
    final int[] refusals = new int[8];
    int fault = NONE;
    List<Integer> trace = new ArrayList<>();

    int refuse(int number) {
        refusals[-(number < -10 ? number + 10 : number)]++;
        return number;
    }

    boolean shelf(int s) {
        return s >= 0 && s < 8;
    }

    boolean isGrown(int g) {
        return g >= 0 && g < told.grown.size();
    }

    boolean isChild(int c) {
        return c >= 0 && c < told.children.size();
    }

    static boolean off(int v, int most) {
        return v < 0 || v > most;
    }

    int row(int s, int sort, int n) {
        if (!shelf(s)) return refuse(-1);
        if (n < 0) return refuse(-4);
        if (off(sort, 3)) return refuse(-6);
        if (n > 160) return refuse(-7);
        Row row = new Row();
        row.sort = sort;
        row.elements = new long[n];
        shelves[s] = row;
        return 1;
    }

    int set(int s, int i, long v) {
        if (!shelf(s)) return refuse(-1);
        if (shelves[s] instanceof Integer) return refuse(-2);
        if (shelves[s] == null) return refuse(-3);
        Row row = (Row) shelves[s];
        if (off(i, row.elements.length - 1)) return refuse(-5);
        int bits = 8 << row.sort;
        row.elements[i] = v << (64 - bits) >> (64 - bits);
        return 1;
    }

    int copy(int p, int q, int i, int j, int n) {
        if (!shelf(p) || !shelf(q)) return refuse(-1);
        if (shelves[p] instanceof Integer || shelves[q] instanceof Integer) return refuse(-2);
        Row from = (Row) shelves[p];
        Row to = (Row) shelves[q];
        if (from != null && to != null && from.sort != to.sort) return refuse(-2);
        if (from == null || to == null) return refuse(-3);
        if (n < 0) return refuse(-4);
        if (i < 0 || j < 0 || (long) i + n > from.elements.length || (long) j + n > to.elements.length) return refuse(-5);
        long[] ahead = Arrays.copyOfRange(from.elements, i, i + n);
        for (int k = 0; k < n; k++) {
            to.elements[j + k] = ahead[k];
        }
        return 1;
    }

    long element(int s, int i) {
        if (!shelf(s) || !(shelves[s] instanceof Row)) return 0;
        Row row = (Row) shelves[s];
        return off(i, row.elements.length - 1) ? 0 : row.elements[i];
    }

    int show(int s, int grown) {
        if (!shelf(s) || grown != NONE && !isGrown(grown)) return refuse(-1);
        shelves[s] = grown == NONE ? null : (Integer) grown;
        return grown == NONE ? 0 : 1;
    }

    int holds(int s) {
        if (!shelf(s) || shelves[s] == null) return NONE;
        return shelves[s] instanceof Integer ? (Integer) shelves[s] : 100 + ((Row) shelves[s]).sort;
    }

    int says(int s, int kind) {
        if (!shelf(s) || off(kind, 6)) return refuse(-1);
        if (shelves[s] instanceof Row) return refuse(-2);
        if (shelves[s] == null) return refuse(-3);
        int who = (Integer) shelves[s];
        Grown g = told.grown.get(who);
        int at = g.kind;
        while (at != kind && at > 0) {
            at = ABOVE[at];
        }
        if (at != kind) return refuse(-2);
        return kind == 0 ? g.means : kind == 4 ? told.charge(who) : kind == 2 || kind == 5 ? g.a : g.dropped;
    }

    int grown(int kind, int a, int means, int tricks) {
        if (off(kind, 6)) return refuse(-1);
        if (off(a, 9) || off(means, 60) || off(tricks, 9)) return refuse(-6);
        if (told.grown.size() == 8) return refuse(-7);
        Grown g = new Grown();
        g.kind = kind;
        g.a = a;
        g.means = means;
        g.tricks = tricks;
        told.grown.add(g);
        return told.grown.size() - 1;
    }

    int child(int taste, int greed, int one, int two, int three) {
        if (!isGrown(one) || !isGrown(two) || !isGrown(three)) return refuse(-1);
        Child c = new Child();
        c.taste = taste;
        c.greed = greed;
        c.three.addAll(List.of(one, two == one ? three : two));
        c.three.add(three);
        if (off(taste, 9) || off(greed, 9) || c.three.size() != 3) return refuse(-6);
        if (told.children.size() == 6) return refuse(-7);
        told.children.add(c);
        return told.children.size() - 1;
    }

    int flood(int v) {
        if (off(v, 9)) return refuse(-6);
        int was = told.flood;
        told.flood = v;
        return was;
    }

    int age(int child, int v) {
        if (!isChild(child)) return refuse(-1);
        if (off(v, 30)) return refuse(-6);
        int was = told.children.get(child).age;
        told.children.get(child).age = v;
        return was;
    }

    int gift(int child, int grown, int n) {
        if (!isChild(child) || !isGrown(grown)) return refuse(-1);
        if (off(n, 20) || told.grown.get(grown).kind == 4) return refuse(-6);
        told.give(child, grown, n);
        return told.children.get(child).liking[grown];
    }

    int grownOf(int grown, int what) {
        if (!isGrown(grown) || off(what, 6)) return refuse(-5);
        Grown g = told.grown.get(grown);
        return new int[] {g.kind, g.a, g.means, g.tricks, g.dropped, told.charge(grown), g.means / 5}[what];
    }

    int childOf(int child, int what) {
        if (!isChild(child) || off(what, 3)) return refuse(-5);
        Child c = told.children.get(child);
        int bits = c.three.stream().mapToInt(g -> 1 << g).sum();
        return new int[] {c.taste, c.greed, c.age, bits}[what];
    }

    int pull(int child, int grown, int what) {
        if (!isChild(child) || !isGrown(grown)) return refuse(-1);
        if (off(what, 1)) return refuse(-5);
        return what == 0 ? told.children.get(child).liking[grown] : told.pull(child, grown);
    }

    int parish(int s) {
        if (!shelf(s)) return refuse(-1);
        if (shelves[s] instanceof Integer) return refuse(-2);
        if (shelves[s] == null) return refuse(-3);
        StringBuilder letters = new StringBuilder();
        for (long v : ((Row) shelves[s]).elements) {
            int n = (int) v;
            // Whatever is no letter of such texts may be told by any sign that is none either.
            letters.append(n >= 32 && n < 127 ? (char) n : '?');
        }
        ModelText text = new ModelText(letters.toString(), told.twin());
        int items = text.read();
        fault = text.fault;
        if (fault != NONE) return refuse(-6);
        told = text.told;
        return items;
    }

    int chooses(int child, int what) {
        if (!isChild(child)) return refuse(-11);
        return off(what, 2) ? refuse(-15) : told.choice(child)[what];
    }

    int by(int grown, int what) {
        if (!isGrown(grown)) return refuse(-1);
        if (off(what, 3)) return refuse(-5);
        if (what == 3) return told.chargeThen(grown);
        int bits = 0;
        for (int c = 0; c < told.children.size(); c++) {
            bits += told.choice(c)[what] == grown ? 1 << c : 0;
        }
        return bits;
    }

    int favourite(int what) {
        if (off(what, 1)) return refuse(-15);
        int[] takers = new int[told.grown.size()];
        for (int c = 0; c < told.children.size(); c++) {
            if (told.choice(c)[2] != NONE) {
                takers[told.choice(c)[2]]++;
            }
        }
        int best = NONE;
        int bare = 0;
        for (int g = takers.length - 1; g >= 0; g--) {
            best = takers[g] > 0 && (best == NONE || takers[g] >= takers[best]) ? g : best;
            bare += told.chargeThen(g) > told.grown.get(g).means / 5 ? 1 : 0;
        }
        return what == 0 ? best : bare;
    }

    int picks(int child) {
        if (!isChild(child)) return refuse(-11);
        return new ModelPicks(told).best()[child];
    }

    int woo(int grown, int child, int what) {
        if (!isGrown(grown) || !isChild(child)) return refuse(-11);
        if (off(what, 1)) return refuse(-15);
        boolean own = told.children.get(child).three.contains(grown);
        if (told.grown.get(grown).kind == 4 || what == 1 && !own) return refuse(-16);
        for (int n = 0; n <= 20; n++) {
            Told tried = told.twin();
            tried.give(child, grown, n);
            int[] choice = tried.choice(child);
            if (what == 1 ? choice[0] != grown : choice[own ? 1 : 2] == grown) return n;
        }
        return NONE;
    }

    private int pullAfter(int child, int grown, int gifts) {
        Told tried = told.twin();
        tried.give(child, grown, gifts);
        return tried.pull(child, grown);
    }

    int two(int one, int other, int child, int what) {
        if (!isGrown(one) || !isGrown(other) || !isChild(child) || one == other) return refuse(-1);
        if (off(what, 1)) return refuse(-5);
        for (int g : new int[] {one, other}) {
            if (told.children.get(child).three.contains(g) || told.grown.get(g).kind == 4) return refuse(-6);
        }
        int low = Math.min(one, other);
        int high = Math.max(one, other);
        int lowAll = pullAfter(child, low, told.grown.get(low).means / 3);
        int highAll = pullAfter(child, high, told.grown.get(high).means / 3);
        int winner = lowAll >= highAll ? low : high;
        if (what == 0) return winner;
        int n = 0;
        while (winner == low ? pullAfter(child, low, n) < highAll : pullAfter(child, high, n) <= lowAll) {
            n++;
        }
        return n;
    }

    int tastes(int child, int given, int kept, int taken) {
        if (!isChild(child) || !isGrown(kept)) return refuse(-1);
        if (given != NONE && !isGrown(given) || taken != NONE && !isGrown(taken)) return refuse(-1);
        int bits = 0;
        for (int taste = 0; taste < 10; taste++) {
            Told tried = told.twin();
            tried.children.get(child).taste = taste;
            bits += Arrays.equals(tried.choice(child), new int[] {given, kept, taken}) ? 1 << taste : 0;
        }
        return bits;
    }

    int trades(int what) {
        if (off(what, 1)) return refuse(-15);
        List<Integer> all = new ArrayList<>();
        for (int i = 0; i < told.children.size(); i++) {
            for (int j = i + 1; j < told.children.size(); j++) {
                int ki = told.choice(i)[1];
                int kj = told.choice(j)[1];
                boolean apart = ki != kj && !told.children.get(i).three.contains(kj)
                        && !told.children.get(j).three.contains(ki);
                if (apart && told.pull(i, kj) > told.pull(i, ki) && told.pull(j, ki) > told.pull(j, kj)) {
                    all.add(10 * i + j);
                }
            }
        }
        return what == 0 ? all.size() : all.isEmpty() ? NONE : all.get(0);
    }

    int ahead(int grown, int n, int what) {
        if (!isGrown(grown)) return refuse(-1);
        if (off(what, 1)) return refuse(-5);
        if (off(n, 20)) return refuse(-6);
        Told then = told.twin();
        for (int i = 0; i < n; i++) {
            then.pass();
        }
        return what == 0 ? then.charge(grown) : then.grown.get(grown).dropped;
    }

    int judge(int s, int child) {
        if (!shelf(s) || !isChild(child)) return refuse(-11);
        if (shelves[s] instanceof Integer) return refuse(-12);
        if (shelves[s] == null) return refuse(-13);
        long[] elements = ((Row) shelves[s]).elements;
        if (elements.length < 3) return refuse(-15);
        int[] choice = told.choice(child);
        for (int i = 0; i < 3; i++) {
            if ((int) elements[i] != choice[i]) return i;
        }
        return NONE;
    }

    int ninth(int child) {
        if (!isChild(child)) return refuse(-11);
        int age = told.children.get(child).age;
        return age >= 9 ? NONE : 9 - age;
    }

    int choose(int child) {
        if (!isChild(child)) return refuse(-1);
        int taken = told.letChoose(child);
        return taken == NONE ? refuse(-6) : taken;
    }

    int years(int n) {
        if (n < 1 || n > 40) return refuse(-6);
        for (int i = 0; i < n; i++) {
            told.pass();
        }
        return told.year;
    }

    int drawn(int n) {
        if (told.grown.isEmpty() || told.children.isEmpty()) return refuse(-5);
        if (n < 1 || n > 40) return refuse(-6);
        for (int i = 0; i < n; i++) {
            int who = told.draw(told.grown.size());
            int child = told.draw(told.children.size());
            int gifts = 1 + told.draw(3);
            if (told.grown.get(who).kind != 4) {
                told.give(child, who, gifts);
            }
            told.pass();
        }
        return status(4);
    }

    int seed(int v) {
        int was = told.seed;
        told.seed = v;
        return was;
    }

    int act(int grown, int move, int x) {
        trace = new ArrayList<>();
        if (!isGrown(grown) || off(move, 2)) return 0;
        ModelMoves.Plain who = ModelMoves.of(told.grown.get(grown).kind);
        who.m = grown;
        who.k = told.grown.get(grown).a;
        who.trace = trace;
        return move == 0 ? who.plays(x) : move == 1 ? who.gives(x) : who.bows(x);
    }

    int trace(int i) {
        return i < 0 || i >= Math.min(20, trace.size()) ? NONE : trace.get(i);
    }

    int image() {
        image = told.twin();
        return told.grown.size();
    }

    int restore() {
        if (image == null) return refuse(-6);
        told = image.twin();
        for (int s = 0; s < 8; s++) {
            if (shelves[s] instanceof Integer && !isGrown((Integer) shelves[s])) {
                shelves[s] = null;
            }
        }
        return told.grown.size();
    }

    int status(int what) {
        switch (what) {
            case 0: return told.grown.size();
            case 1: return told.children.size();
            case 2: return told.flood;
            case 3: return told.year;
            case 4: return told.grown.stream().mapToInt(g -> g.dropped).sum();
            case 5: return told.children.stream().mapToInt(c -> Arrays.stream(c.liking).sum()).sum();
            case 6: return told.seed;
            case 7: return trace.size();
            default: return what >= 11 && what <= 17 ? refusals[what - 10] : NONE;
        }
    }
}
