/**
 * A parish in which each child has three godparents and at nine gives up one, keeps one and takes one of
 * its own choosing. The document ../shared/DOC.md tells what every call answers.
 */
public final class ChosenBackAtNine {
    public static final int NONE = -1;

    private static final int NOBODY = -1;
    private static final int OTHER = -2;
    private static final int NOTHING = -3;
    private static final int BELOW = -4;
    private static final int BEYOND = -5;
    private static final int WRONG = -6;
    private static final int ROOM = -7;

    private static final int SHELVES = 8;
    private static final int MOST_GIFTS = 20;
    private static final int MOST_YEARS = 40;
    private static final int MOST_YEARS_AHEAD = 20;
    private static final int FIRST_ROW = 100;
    private static final int FIRST_REFUSAL = 10;

    private final Parish parish = new Parish();
    // What is only tried out happens here, so that the parish itself stays as it is.
    private final Parish thought = new Parish();
    private final Parish image = new Parish();
    private boolean hasImage = false;
    private final Shelf[] shelves = new Shelf[SHELVES];
    private final Picks picks = new Picks();
    private final Reader reader = new Reader();
    private final Stage stage = new Stage();
    private final int[] refusals = new int[8];
    private int fault = NONE;

    public ChosenBackAtNine() {
        for (int s = 0; s < SHELVES; s++) {
            shelves[s] = new Shelf();
        }
    }

    // ---- shelves

    public int row(int s, int sort, int n) {
        Shelf shelf = shelfAt(s);
        if (shelf == null) {
            return refuse(NOBODY);
        }
        if (n < 0) {
            return refuse(BELOW);
        }
        if (!isWithin(sort, Shelf.LONGS)) {
            return refuse(WRONG);
        }
        if (n > Shelf.MOST_ELEMENTS) {
            return refuse(ROOM);
        }
        shelf.putRow(sort, n);
        return 1;
    }

    public int set(int s, int i, long v) {
        Shelf shelf = shelfAt(s);
        int refusal = rowRefusal(shelf);
        if (shelf == null || refusal != 0) {
            return refuse(refusal);
        }
        if (!shelf.hasElement(i)) {
            return refuse(BEYOND);
        }
        shelf.putElement(i, v);
        return 1;
    }

    public int copy(int p, int q, int i, int j, int n) {
        Shelf from = shelfAt(p);
        Shelf to = shelfAt(q);
        if (from == null || to == null) {
            return refuse(NOBODY);
        }
        if (from.hasGrown() || to.hasGrown()) {
            return refuse(OTHER);
        }
        if (from.hasRow() && to.hasRow() && from.sort != to.sort) {
            return refuse(OTHER);
        }
        if (!from.hasRow() || !to.hasRow()) {
            return refuse(NOTHING);
        }
        if (n < 0) {
            return refuse(BELOW);
        }
        if (!from.hasSpan(i, n) || !to.hasSpan(j, n)) {
            return refuse(BEYOND);
        }
        System.arraycopy(from.elements, i, to.elements, j, n);
        return 1;
    }

    public long element(int s, int i) {
        Shelf shelf = shelfAt(s);
        if (shelf == null || !shelf.hasElement(i)) {
            return 0;
        }
        return shelf.elements[i];
    }

    public int show(int s, int grown) {
        Shelf shelf = shelfAt(s);
        if (shelf == null || grown != NONE && !parish.hasGrown(grown)) {
            return refuse(NOBODY);
        }
        shelf.putGrown(grown);
        return grown == NONE ? 0 : 1;
    }

    public int holds(int s) {
        Shelf shelf = shelfAt(s);
        if (shelf == null) {
            return NONE;
        }
        return shelf.hasRow() ? FIRST_ROW + shelf.sort : shelf.grown;
    }

    public int says(int s, int kind) {
        Shelf shelf = shelfAt(s);
        if (shelf == null || !Kinds.isKind(kind)) {
            return refuse(NOBODY);
        }
        if (shelf.hasRow()) {
            return refuse(OTHER);
        }
        int grown = shelf.grown;
        if (!parish.hasGrown(grown)) {
            return refuse(NOTHING);
        }
        if (!Kinds.isUnder(parish.kinds[grown], kind)) {
            return refuse(OTHER);
        }
        if (kind == Kinds.GROWN) {
            return parish.means[grown];
        }
        if (kind == Kinds.DEAD) {
            return parish.chargeOf(grown);
        }
        return Kinds.isUnder(kind, Kinds.UNCLE) ? parish.dropped[grown] : parish.as[grown];
    }

    // ---- the parish

    public int grown(int kind, int a, int means, int tricks) {
        if (!Kinds.isKind(kind)) {
            return refuse(NOBODY);
        }
        if (!isWithin(a, Parish.MOST_A) || !isWithin(means, Parish.MOST_MEANS)
                || !isWithin(tricks, Parish.MOST_TRICKS)) {
            return refuse(WRONG);
        }
        if (!parish.hasRoomForGrown()) {
            return refuse(ROOM);
        }
        return parish.addGrown(kind, a, means, tricks);
    }

    public int child(int taste, int greed, int one, int two, int three) {
        if (!parish.hasGrown(one) || !parish.hasGrown(two) || !parish.hasGrown(three)) {
            return refuse(NOBODY);
        }
        if (!isWithin(taste, Parish.MOST_TASTE) || !isWithin(greed, Parish.MOST_GREED)
                || one == two || one == three || two == three) {
            return refuse(WRONG);
        }
        if (!parish.hasRoomForChild()) {
            return refuse(ROOM);
        }
        return parish.addChild(taste, greed, 1 << one | 1 << two | 1 << three);
    }

    public int flood(int v) {
        if (!isWithin(v, Parish.MOST_FLOOD)) {
            return refuse(WRONG);
        }
        int before = parish.flood;
        parish.flood = v;
        return before;
    }

    public int age(int child, int v) {
        if (!parish.hasChild(child)) {
            return refuse(NOBODY);
        }
        if (!isWithin(v, Parish.MOST_AGE)) {
            return refuse(WRONG);
        }
        int before = parish.ages[child];
        parish.ages[child] = v;
        return before;
    }

    public int gift(int child, int grown, int n) {
        if (!parish.hasChild(child) || !parish.hasGrown(grown)) {
            return refuse(NOBODY);
        }
        if (!isWithin(n, MOST_GIFTS) || parish.isDead(grown)) {
            return refuse(WRONG);
        }
        parish.give(child, grown, n);
        return parish.likingOf(child, grown);
    }

    public int grownOf(int grown, int what) {
        if (!parish.hasGrown(grown)) {
            return refuse(BEYOND);
        }
        switch (what) {
            case 0:
                return parish.kinds[grown];
            case 1:
                return parish.as[grown];
            case 2:
                return parish.means[grown];
            case 3:
                return parish.tricks[grown];
            case 4:
                return parish.dropped[grown];
            case 5:
                return parish.chargeOf(grown);
            case 6:
                return parish.shoesOf(grown);
            default:
                return refuse(BEYOND);
        }
    }

    public int childOf(int child, int what) {
        if (!parish.hasChild(child)) {
            return refuse(BEYOND);
        }
        switch (what) {
            case 0:
                return parish.tastes[child];
            case 1:
                return parish.greeds[child];
            case 2:
                return parish.ages[child];
            case 3:
                return parish.godparents[child];
            default:
                return refuse(BEYOND);
        }
    }

    public int pull(int child, int grown, int what) {
        if (!parish.hasChild(child) || !parish.hasGrown(grown)) {
            return refuse(NOBODY);
        }
        if (!isWithin(what, 1)) {
            return refuse(BEYOND);
        }
        return what == 0 ? parish.likingOf(child, grown) : parish.pullOf(child, grown);
    }

    public int parish(int s) {
        Shelf shelf = shelfAt(s);
        int refusal = rowRefusal(shelf);
        if (shelf == null || refusal != 0) {
            return refuse(refusal);
        }
        thought.copyFrom(parish);
        int items = reader.readOnto(thought, shelf);
        fault = reader.fault;
        if (fault != NONE) {
            return refuse(WRONG);
        }
        parish.copyFrom(thought);
        return items;
    }

    public int fault() {
        return fault;
    }

    // ---- what comes of it

    public int chooses(int child, int what) {
        if (!parish.hasChild(child)) {
            return refuseTelling(NOBODY);
        }
        if (!isWithin(what, Choice.TAKEN)) {
            return refuseTelling(BEYOND);
        }
        return parish.choiceOf(child).whom(what);
    }

    public int by(int grown, int what) {
        if (!parish.hasGrown(grown)) {
            return refuse(NOBODY);
        }
        if (!isWithin(what, Choice.TAKEN + 1)) {
            return refuse(BEYOND);
        }
        return what > Choice.TAKEN ? parish.chargeThenOf(grown) : parish.childrenBy(grown, what);
    }

    public int favourite(int what) {
        if (!isWithin(what, 1)) {
            return refuseTelling(BEYOND);
        }
        return what == 0 ? parish.mostTaken() : parish.howManyBare();
    }

    public int picks(int child) {
        if (!parish.hasChild(child)) {
            return refuseTelling(NOBODY);
        }
        picks.part(parish);
        return picks.places[child];
    }

    public int woo(int grown, int child, int what) {
        if (!parish.hasGrown(grown) || !parish.hasChild(child)) {
            return refuseTelling(NOBODY);
        }
        if (!isWithin(what, 1)) {
            return refuseTelling(BEYOND);
        }
        boolean own = parish.isGodparent(child, grown);
        if (parish.isDead(grown) || what == 1 && !own) {
            return refuseTelling(WRONG);
        }
        thought.copyFrom(parish);
        for (int gifts = 0; gifts <= MOST_GIFTS; gifts++) {
            Choice choice = thought.choiceOf(child);
            boolean won = what == 1 ? choice.given != grown : own ? choice.kept == grown : choice.taken == grown;
            if (won) {
                return gifts;
            }
            thought.give(child, grown, 1);
        }
        return NONE;
    }

    public int two(int one, int other, int child, int what) {
        if (!parish.hasGrown(one) || !parish.hasGrown(other) || !parish.hasChild(child) || one == other) {
            return refuse(NOBODY);
        }
        if (!isWithin(what, 1)) {
            return refuse(BEYOND);
        }
        if (parish.isGodparent(child, one) || parish.isGodparent(child, other)
                || parish.isDead(one) || parish.isDead(other)) {
            return refuse(WRONG);
        }
        int most = parish.mostGiftsOf(one);
        boolean won = parish.isAhead(child, one, most, other);
        int winner = won ? one : other;
        if (what == 0) {
            return winner;
        }
        return priceOf(child, winner, won ? other : one);
    }

    private int priceOf(int child, int winner, int loser) {
        int most = parish.mostGiftsOf(winner);
        for (int gifts = 0; gifts < most; gifts++) {
            if (parish.isAhead(child, winner, gifts, loser)) {
                return gifts;
            }
        }
        return most;
    }

    public int tastes(int child, int given, int kept, int taken) {
        if (!parish.hasChild(child) || !parish.hasGrown(kept)
                || given != NONE && !parish.hasGrown(given) || taken != NONE && !parish.hasGrown(taken)) {
            return refuse(NOBODY);
        }
        thought.copyFrom(parish);
        int bits = 0;
        for (int taste = 0; taste <= Parish.MOST_TASTE; taste++) {
            thought.tastes[child] = taste;
            Choice choice = thought.choiceOf(child);
            if (choice.given == given && choice.kept == kept && choice.taken == taken) {
                bits |= 1 << taste;
            }
        }
        return bits;
    }

    public int trades(int what) {
        if (!isWithin(what, 1)) {
            return refuseTelling(BEYOND);
        }
        int count = 0;
        int first = NONE;
        for (int one = 0; one < parish.childCount; one++) {
            for (int other = one + 1; other < parish.childCount; other++) {
                if (parish.wouldTrade(one, other)) {
                    count++;
                    first = first == NONE ? 10 * one + other : first;
                }
            }
        }
        return what == 0 ? count : first;
    }

    public int ahead(int grown, int n, int what) {
        if (!parish.hasGrown(grown)) {
            return refuse(NOBODY);
        }
        if (!isWithin(what, 1)) {
            return refuse(BEYOND);
        }
        if (!isWithin(n, MOST_YEARS_AHEAD)) {
            return refuse(WRONG);
        }
        thought.copyFrom(parish);
        for (int i = 0; i < n; i++) {
            thought.passYear();
        }
        return what == 0 ? thought.chargeOf(grown) : thought.dropped[grown];
    }

    public int judge(int s, int child) {
        Shelf shelf = shelfAt(s);
        if (shelf == null || !parish.hasChild(child)) {
            return refuseTelling(NOBODY);
        }
        int refusal = rowRefusal(shelf);
        if (refusal != 0) {
            return refuseTelling(refusal);
        }
        if (!shelf.hasSpan(0, Choice.TAKEN + 1)) {
            return refuseTelling(BEYOND);
        }
        Choice choice = parish.choiceOf(child);
        for (int what = 0; what <= Choice.TAKEN; what++) {
            if (shelf.numberAt(what) != choice.whom(what)) {
                return what;
            }
        }
        return NONE;
    }

    public int ninth(int child) {
        if (!parish.hasChild(child)) {
            return refuseTelling(NOBODY);
        }
        int years = Parish.CHOOSING_AGE - parish.ages[child];
        return years > 0 ? years : NONE;
    }

    // ---- in truth

    public int choose(int child) {
        if (!parish.hasChild(child)) {
            return refuse(NOBODY);
        }
        int taken = parish.letChoose(child);
        return taken == NONE ? refuse(WRONG) : taken;
    }

    public int years(int n) {
        if (n < 1 || n > MOST_YEARS) {
            return refuse(WRONG);
        }
        for (int i = 0; i < n; i++) {
            parish.passYear();
        }
        return parish.year;
    }

    public int drawn(int n) {
        if (parish.grownCount == 0 || parish.childCount == 0) {
            return refuse(BEYOND);
        }
        if (n < 1 || n > MOST_YEARS) {
            return refuse(WRONG);
        }
        for (int i = 0; i < n; i++) {
            parish.giveByDraws();
            parish.passYear();
        }
        return parish.allDropped();
    }

    public int seed(int v) {
        int before = parish.seed;
        parish.seed = v;
        return before;
    }

    // ---- moves, image, status

    public int act(int grown, int move, int x) {
        stage.clear();
        if (!parish.hasGrown(grown) || !isWithin(move, Stage.BOWS)) {
            return 0;
        }
        return stage.perform(parish, grown, move, x);
    }

    public int trace(int i) {
        return stage.bodyAt(i);
    }

    public int image() {
        image.copyFrom(parish);
        hasImage = true;
        return parish.grownCount;
    }

    public int restore() {
        if (!hasImage) {
            return refuse(WRONG);
        }
        parish.copyFrom(image);
        for (int s = 0; s < SHELVES; s++) {
            Shelf shelf = shelves[s];
            if (shelf.hasGrown() && !parish.hasGrown(shelf.grown)) {
                shelf.putGrown(NONE);
            }
        }
        return parish.grownCount;
    }

    public int status(int what) {
        switch (what) {
            case 0:
                return parish.grownCount;
            case 1:
                return parish.childCount;
            case 2:
                return parish.flood;
            case 3:
                return parish.year;
            case 4:
                return parish.allDropped();
            case 5:
                return parish.allLiking();
            case 6:
                return parish.seed;
            case 7:
                return stage.ran;
            default:
                return refusalsOf(what);
        }
    }

    private int refusalsOf(int what) {
        if (what <= FIRST_REFUSAL || what > FIRST_REFUSAL - ROOM) {
            return NONE;
        }
        return refusals[what - FIRST_REFUSAL];
    }

    // ---- refusals and what is looked at before

    private int refuse(int number) {
        if (number <= NOBODY && number >= ROOM) {
            refusals[-number]++;
        }
        return number;
    }

    // A call whose answer may be NONE is refused by a number ten lower, so that the two differ.
    private int refuseTelling(int number) {
        return refuse(number) - FIRST_REFUSAL;
    }

    private Shelf shelfAt(int s) {
        return s >= 0 && s < SHELVES ? shelves[s] : null;
    }

    private static int rowRefusal(Shelf shelf) {
        if (shelf == null) {
            return NOBODY;
        }
        if (shelf.hasGrown()) {
            return OTHER;
        }
        return shelf.hasRow() ? 0 : NOTHING;
    }

    private static boolean isWithin(int v, int most) {
        return v >= 0 && v <= most;
    }

    /** The kinds of grown ones, each under the one above it. */
    private static final class Kinds {
        static final int GROWN = 0;
        static final int UNCLE = 1;
        static final int THIEF = 2;
        static final int MILLER = 3;
        static final int DEAD = 4;
        static final int LENDER = 5;
        static final int PAYING = 6;
        private static final int[] ABOVE = {NONE, GROWN, GROWN, UNCLE, GROWN, THIEF, MILLER};

        static boolean isKind(int kind) {
            return isWithin(kind, PAYING);
        }

        static int above(int kind) {
            return isKind(kind) ? ABOVE[kind] : NONE;
        }

        static boolean isUnder(int kind, int wanted) {
            int at = kind;
            for (int level = 0; level <= PAYING && at != NONE; level++) {
                if (at == wanted) {
                    return true;
                }
                at = above(at);
            }
            return false;
        }
    }

    /** All that an image keeps: grown ones, children, flood, year and seed, and what they do. */
    private static final class Parish {
        static final int MOST_GROWN = 8;
        static final int MOST_CHILDREN = 6;
        static final int MOST_A = 9;
        static final int MOST_MEANS = 60;
        static final int MOST_TRICKS = 9;
        static final int MOST_DROPPED = 99;
        static final int MOST_TASTE = 9;
        static final int MOST_GREED = 9;
        static final int MOST_AGE = 30;
        static final int MOST_LIKING = 99;
        static final int MOST_FLOOD = 9;
        static final int CHOOSING_AGE = 9;

        int grownCount = 0;
        int childCount = 0;
        int flood = 0;
        int year = 0;
        int seed = 1;
        final int[] kinds = new int[MOST_GROWN];
        final int[] as = new int[MOST_GROWN];
        final int[] means = new int[MOST_GROWN];
        final int[] tricks = new int[MOST_GROWN];
        final int[] dropped = new int[MOST_GROWN];
        final int[] tastes = new int[MOST_CHILDREN];
        final int[] greeds = new int[MOST_CHILDREN];
        final int[] ages = new int[MOST_CHILDREN];
        final int[] godparents = new int[MOST_CHILDREN];
        private final int[] likings = new int[MOST_CHILDREN * MOST_GROWN];
        // Made once and weighed anew for each child: what it tells holds until the next is asked for.
        private final Choice choice = new Choice();

        // Whole arrays are copied, so that places beyond the counts stay 0 for those who come later.
        void copyFrom(Parish other) {
            grownCount = other.grownCount;
            childCount = other.childCount;
            flood = other.flood;
            year = other.year;
            seed = other.seed;
            System.arraycopy(other.kinds, 0, kinds, 0, MOST_GROWN);
            System.arraycopy(other.as, 0, as, 0, MOST_GROWN);
            System.arraycopy(other.means, 0, means, 0, MOST_GROWN);
            System.arraycopy(other.tricks, 0, tricks, 0, MOST_GROWN);
            System.arraycopy(other.dropped, 0, dropped, 0, MOST_GROWN);
            System.arraycopy(other.tastes, 0, tastes, 0, MOST_CHILDREN);
            System.arraycopy(other.greeds, 0, greeds, 0, MOST_CHILDREN);
            System.arraycopy(other.ages, 0, ages, 0, MOST_CHILDREN);
            System.arraycopy(other.godparents, 0, godparents, 0, MOST_CHILDREN);
            System.arraycopy(other.likings, 0, likings, 0, MOST_CHILDREN * MOST_GROWN);
        }

        boolean hasGrown(int grown) {
            return grown >= 0 && grown < grownCount;
        }

        boolean hasChild(int child) {
            return child >= 0 && child < childCount;
        }

        boolean hasRoomForGrown() {
            return grownCount < MOST_GROWN;
        }

        boolean hasRoomForChild() {
            return childCount < MOST_CHILDREN;
        }

        int addGrown(int kind, int a, int itsMeans, int itsTricks) {
            int grown = grownCount++;
            kinds[grown] = kind;
            as[grown] = a;
            means[grown] = itsMeans;
            tricks[grown] = itsTricks;
            return grown;
        }

        int addChild(int taste, int greed, int three) {
            int child = childCount++;
            tastes[child] = taste;
            greeds[child] = greed;
            godparents[child] = three;
            return child;
        }

        boolean isDead(int grown) {
            return kinds[grown] == Kinds.DEAD;
        }

        boolean isGodparent(int child, int grown) {
            return (godparents[child] >> grown & 1) == 1;
        }

        int shoesOf(int grown) {
            return means[grown] / 5;
        }

        int mostGiftsOf(int grown) {
            return means[grown] / 3;
        }

        int chargeOf(int grown) {
            int charge = 0;
            for (int child = 0; child < childCount; child++) {
                charge += isGodparent(child, grown) ? 1 : 0;
            }
            return charge;
        }

        // ---- liking and pull

        int likingOf(int child, int grown) {
            return likings[child * MOST_GROWN + grown];
        }

        private void raiseLiking(int child, int grown, int by) {
            likings[child * MOST_GROWN + grown] = Math.min(MOST_LIKING, likingOf(child, grown) + by);
        }

        void give(int child, int grown, int gifts) {
            raiseLiking(child, grown, gifts * greeds[child]);
        }

        int pullOf(int child, int grown) {
            return pullAt(child, grown, likingOf(child, grown));
        }

        private int pullWith(int child, int grown, int gifts) {
            int liking = Math.min(MOST_LIKING, likingOf(child, grown) + gifts * greeds[child]);
            return pullAt(child, grown, liking);
        }

        private int pullAt(int child, int grown, int liking) {
            int a = as[grown];
            int plain = liking + tricks[grown] * tastes[child];
            int stolen = tastes[child] > greeds[child] ? 3 * a : 0;
            int ground = plain + a + means[grown] / 3 - 2 * dropped[grown];
            switch (kinds[grown]) {
                case Kinds.UNCLE:
                    return plain + a;
                case Kinds.MILLER:
                    return Math.max(0, ground);
                case Kinds.PAYING:
                    return means[grown] >= 5 ? 0 : Math.max(0, ground);
                case Kinds.THIEF:
                    return plain + stolen;
                case Kinds.LENDER:
                    return plain + stolen + flood * a;
                case Kinds.DEAD:
                    return liking + ages[child];
                default:
                    return plain;
            }
        }

        /** Whether one, by so many gifts, is ahead of another who gives all that he can. */
        boolean isAhead(int child, int one, int gifts, int other) {
            int his = pullWith(child, one, gifts);
            int theOther = pullWith(child, other, mostGiftsOf(other));
            return his > theOther || his == theOther && one < other;
        }

        // ---- choosing

        Choice choiceOf(int child) {
            choice.weigh(this, child);
            return choice;
        }

        int chargeThenOf(int grown) {
            int charge = 0;
            for (int child = 0; child < childCount; child++) {
                charge += choiceOf(child).three >> grown & 1;
            }
            return charge;
        }

        int childrenBy(int grown, int what) {
            int bits = 0;
            for (int child = 0; child < childCount; child++) {
                bits |= choiceOf(child).whom(what) == grown ? 1 << child : 0;
            }
            return bits;
        }

        int mostTaken() {
            int favourite = NONE;
            int most = 0;
            for (int grown = 0; grown < grownCount; grown++) {
                int takers = Integer.bitCount(childrenBy(grown, Choice.TAKEN));
                if (takers > most) {
                    favourite = grown;
                    most = takers;
                }
            }
            return favourite;
        }

        int howManyBare() {
            int bare = 0;
            for (int grown = 0; grown < grownCount; grown++) {
                bare += chargeThenOf(grown) > shoesOf(grown) ? 1 : 0;
            }
            return bare;
        }

        boolean wouldTrade(int one, int other) {
            int its = choiceOf(one).kept;
            int theOthers = choiceOf(other).kept;
            return its != NONE && theOthers != NONE && its != theOthers
                    && !isGodparent(other, its) && !isGodparent(one, theOthers)
                    && pullOf(one, theOthers) > pullOf(one, its)
                    && pullOf(other, its) > pullOf(other, theOthers);
        }

        // ---- years

        int letChoose(int child) {
            choice.weigh(this, child);
            if (choice.given != NONE) {
                godparents[child] = choice.three;
                dropped[choice.given] = Math.min(MOST_DROPPED, dropped[choice.given] + 1);
            }
            return choice.taken;
        }

        void passYear() {
            for (int child = 0; child < childCount; child++) {
                ages[child] = Math.min(MOST_AGE, ages[child] + 1);
                takeYearlyGifts(child);
            }
            for (int child = 0; child < childCount; child++) {
                if (ages[child] == CHOOSING_AGE) {
                    letChoose(child);
                }
            }
            year++;
        }

        private void takeYearlyGifts(int child) {
            for (int grown = 0; grown < grownCount; grown++) {
                if (isGodparent(child, grown) && !isDead(grown)) {
                    raiseLiking(child, grown, 1 + tricks[grown] / 4);
                }
            }
        }

        void giveByDraws() {
            int grown = draw(grownCount);
            int child = draw(childCount);
            int gifts = 1 + draw(3);
            if (!isDead(grown)) {
                give(child, grown, gifts);
            }
        }

        private int draw(int n) {
            seed = seed * 1103515245 + 12345;
            return n <= 0 ? 0 : (seed >>> 16) % n;
        }

        int allDropped() {
            int all = 0;
            for (int grown = 0; grown < grownCount; grown++) {
                all += dropped[grown];
            }
            return all;
        }

        int allLiking() {
            int all = 0;
            for (int i = 0; i < likings.length; i++) {
                all += likings[i];
            }
            return all;
        }
    }

    /** Whom one child gives up, keeps and takes, and its three godparents (bits) behind that. */
    private static final class Choice {
        static final int GIVEN = 0;
        static final int KEPT = 1;
        static final int TAKEN = 2;

        int given = NONE;
        int kept = NONE;
        int taken = NONE;
        int three = 0;

        void weigh(Parish parish, int child) {
            given = NONE;
            kept = NONE;
            taken = NONE;
            three = parish.godparents[child];
            int least = 0;
            // No pull is so low: the first one is always more.
            int most = NONE;
            int mostOfOthers = NONE;
            for (int grown = 0; grown < parish.grownCount; grown++) {
                int pull = parish.pullOf(child, grown);
                boolean own = parish.isGodparent(child, grown);
                if (own && pull > most) {
                    kept = grown;
                    most = pull;
                }
                if (own && (given == NONE || pull <= least)) {
                    given = grown;
                    least = pull;
                }
                if (!own && pull > mostOfOthers) {
                    taken = grown;
                    mostOfOthers = pull;
                }
            }
            settle();
        }

        private void settle() {
            if (taken == NONE || given == NONE) {
                given = NONE;
                return;
            }
            three = three ^ 1 << given | 1 << taken;
        }

        int whom(int what) {
            if (what == GIVEN) {
                return given;
            }
            return what == KEPT ? kept : taken;
        }
    }

    /** Parts the children among grown ones so that no two would rather have each other. */
    private static final class Picks {
        final int[] places = new int[Parish.MOST_CHILDREN];
        private final int[] refusedBy = new int[Parish.MOST_CHILDREN];

        // Children ask and grown ones refuse: that way each child gets the best that any parting gives it.
        void part(Parish parish) {
            for (int child = 0; child < Parish.MOST_CHILDREN; child++) {
                places[child] = NONE;
                refusedBy[child] = 0;
            }
            boolean asked = true;
            // Nobody asks the same one twice, so there are no more rounds than pairs.
            for (int round = 0; asked && round <= Parish.MOST_CHILDREN * Parish.MOST_GROWN; round++) {
                asked = false;
                for (int child = 0; child < parish.childCount; child++) {
                    if (places[child] == NONE && asks(parish, child)) {
                        asked = true;
                    }
                }
            }
        }

        private boolean asks(Parish parish, int child) {
            int whom = mostPullingLeft(parish, child);
            if (whom == NONE) {
                return false;
            }
            places[child] = whom;
            if (heldBy(parish, whom) > parish.shoesOf(whom)) {
                int out = leastLikedOf(parish, whom, child);
                places[out] = NONE;
                refusedBy[out] |= 1 << whom;
            }
            return true;
        }

        private int mostPullingLeft(Parish parish, int child) {
            int barred = parish.godparents[child] | refusedBy[child];
            int best = NONE;
            int most = NONE;
            for (int grown = 0; grown < parish.grownCount; grown++) {
                if ((barred >> grown & 1) == 0 && parish.pullOf(child, grown) > most) {
                    best = grown;
                    most = parish.pullOf(child, grown);
                }
            }
            return best;
        }

        private int heldBy(Parish parish, int grown) {
            int held = 0;
            for (int child = 0; child < parish.childCount; child++) {
                held += places[child] == grown ? 1 : 0;
            }
            return held;
        }

        private int leastLikedOf(Parish parish, int grown, int asking) {
            int worst = asking;
            for (int child = 0; child < parish.childCount; child++) {
                if (places[child] == grown && isLiked(parish, grown, worst, child)) {
                    worst = child;
                }
            }
            return worst;
        }

        private static boolean isLiked(Parish parish, int grown, int child, int other) {
            int liking = parish.likingOf(child, grown);
            int likingOther = parish.likingOf(other, grown);
            return liking > likingOther || liking == likingOther && child < other;
        }
    }

    /** Nothing, a row, or a grown one. */
    private static final class Shelf {
        static final int MOST_ELEMENTS = 160;
        static final int BYTES = 0;
        static final int SHORTS = 1;
        static final int INTS = 2;
        static final int LONGS = 3;

        int sort = NONE;
        int grown = NONE;
        int size = 0;
        final long[] elements = new long[MOST_ELEMENTS];

        void putRow(int itsSort, int n) {
            sort = itsSort;
            grown = NONE;
            size = n;
            for (int i = 0; i < MOST_ELEMENTS; i++) {
                elements[i] = 0;
            }
        }

        void putGrown(int number) {
            sort = NONE;
            grown = number;
            size = 0;
        }

        boolean hasRow() {
            return sort != NONE;
        }

        boolean hasGrown() {
            return grown != NONE;
        }

        boolean hasElement(int i) {
            return i >= 0 && i < size;
        }

        boolean hasSpan(int i, int n) {
            return i >= 0 && n >= 0 && n <= size - i;
        }

        void putElement(int i, long v) {
            switch (sort) {
                case BYTES:
                    elements[i] = (byte) v;
                    break;
                case SHORTS:
                    elements[i] = (short) v;
                    break;
                case INTS:
                    elements[i] = (int) v;
                    break;
                default:
                    elements[i] = v;
                    break;
            }
        }

        int numberAt(int i) {
            return hasElement(i) ? (int) elements[i] : 0;
        }
    }

    /** Reads a text onto a parish and finds the first place at which it can't stand. */
    private static final class Reader {
        private static final int GROWN = 0;
        private static final int CHILD = 1;
        private static final int GIFT = 2;
        private static final int AGE = 3;
        private static final int FLOOD = 4;
        private static final int[] HOW_MANY_NUMBERS = {4, 5, 3, 2, 1};

        int fault = NONE;
        private final int[] told = new int[5];
        private int place = 0;

        /** How many items; what was read is worth nothing if a fault was found. */
        int readOnto(Parish parish, Shelf row) {
            fault = NONE;
            place = 0;
            int items = 0;
            boolean more = true;
            while (more && items < Shelf.MOST_ELEMENTS) {
                more = readItem(parish, row) && place < row.size && readSign(row, ';');
                items++;
            }
            return items;
        }

        private boolean readItem(Parish parish, Shelf row) {
            int start = place;
            int word = readWord(row);
            if (word == NONE) {
                return false;
            }
            if (!hasRoom(parish, word)) {
                return failAt(start);
            }
            for (int i = 0; i < HOW_MANY_NUMBERS[word]; i++) {
                if (!readNumber(parish, row, word, i)) {
                    return false;
                }
            }
            tell(parish, word);
            return true;
        }

        private boolean failAt(int where) {
            fault = where;
            return false;
        }

        private boolean readSign(Shelf row, char sign) {
            if (!row.hasElement(place) || row.numberAt(place) != sign) {
                return failAt(place);
            }
            place++;
            return true;
        }

        private int readWord(Shelf row) {
            int longest = 0;
            for (int word = GROWN; word <= FLOOD; word++) {
                String letters = lettersOf(word);
                int alike = howManyAlike(row, letters);
                if (alike == letters.length()) {
                    place += alike;
                    return word;
                }
                longest = Math.max(longest, alike);
            }
            failAt(place + longest);
            return NONE;
        }

        private int howManyAlike(Shelf row, String letters) {
            int alike = 0;
            while (alike < letters.length() && row.hasElement(place + alike)
                    && row.numberAt(place + alike) == letters.charAt(alike)) {
                alike++;
            }
            return alike;
        }

        private static String lettersOf(int word) {
            switch (word) {
                case GROWN:
                    return "grown";
                case CHILD:
                    return "child";
                case GIFT:
                    return "gift";
                case AGE:
                    return "age";
                default:
                    return "flood";
            }
        }

        private static boolean hasRoom(Parish parish, int word) {
            if (word == GROWN) {
                return parish.hasRoomForGrown();
            }
            return word != CHILD || parish.hasRoomForChild();
        }

        private boolean readNumber(Parish parish, Shelf row, int word, int i) {
            if (!readSign(row, ' ')) {
                return false;
            }
            int first = place;
            if (!hasDigit(row)) {
                return failAt(first);
            }
            int number = readDigit(row);
            if (hasDigit(row)) {
                number = 10 * number + readDigit(row);
            }
            if (number > mostOf(parish, word, i) || isBarred(parish, word, i, number)) {
                return failAt(first);
            }
            told[i] = number;
            return true;
        }

        private boolean hasDigit(Shelf row) {
            return row.hasElement(place) && row.numberAt(place) >= '0' && row.numberAt(place) <= '9';
        }

        private int readDigit(Shelf row) {
            int digit = row.numberAt(place) - '0';
            place++;
            return digit;
        }

        private static int mostOf(Parish parish, int word, int i) {
            switch (word) {
                case GROWN:
                    return mostOfGrown(i);
                case CHILD:
                    return i == 0 ? Parish.MOST_TASTE : i == 1 ? Parish.MOST_GREED : parish.grownCount - 1;
                case GIFT:
                    return i == 0 ? parish.childCount - 1 : i == 1 ? parish.grownCount - 1 : MOST_GIFTS;
                case AGE:
                    return i == 0 ? parish.childCount - 1 : Parish.MOST_AGE;
                default:
                    return Parish.MOST_FLOOD;
            }
        }

        private static int mostOfGrown(int i) {
            switch (i) {
                case 0:
                    return Kinds.PAYING;
                case 1:
                    return Parish.MOST_A;
                case 2:
                    return Parish.MOST_MEANS;
                default:
                    return Parish.MOST_TRICKS;
            }
        }

        // A godparent told twice, and a dead one who gives: both are in range and still may not be.
        private boolean isBarred(Parish parish, int word, int i, int number) {
            if (word == GIFT) {
                return i == 1 && parish.isDead(number);
            }
            return word == CHILD && (i == 3 && number == told[2]
                    || i == 4 && (number == told[2] || number == told[3]));
        }

        private void tell(Parish parish, int word) {
            switch (word) {
                case GROWN:
                    parish.addGrown(told[0], told[1], told[2], told[3]);
                    break;
                case CHILD:
                    parish.addChild(told[0], told[1], 1 << told[2] | 1 << told[3] | 1 << told[4]);
                    break;
                case GIFT:
                    parish.give(told[0], told[1], told[2]);
                    break;
                case AGE:
                    parish.ages[told[0]] = told[1];
                    break;
                default:
                    parish.flood = told[0];
                    break;
            }
        }
    }

    /** Runs the bodies of a move and keeps the trace of them. */
    private static final class Stage {
        static final int PLAYS = 0;
        static final int GIVES = 1;
        static final int BOWS = 2;
        private static final int MOST_KEPT = 20;
        private static final int DEEPEST = 20;
        // Three places a kind: its own bodies of plays, gives and bows, 0 where it has none.
        private static final int[] BODIES = {
            10, 11, 12,
            20, 0, 0,
            0, 30, 0,
            0, 40, 0,
            51, 0, 50,
            0, 0, 60,
            70, 71, 0,
        };

        int ran = 0;
        private final int[] kept = new int[MOST_KEPT];
        private int kind = NONE;
        private int m = 0;
        private int k = 0;

        void clear() {
            ran = 0;
        }

        int bodyAt(int i) {
            return i >= 0 && i < ran && i < MOST_KEPT ? kept[i] : NONE;
        }

        int perform(Parish parish, int grown, int move, int x) {
            kind = parish.kinds[grown];
            m = grown;
            k = parish.as[grown];
            return run(this, move, kind, x, 0);
        }

        private static int run(Stage stage, int move, int from, int x, int depth) {
            int owner = ownerOf(move, from);
            if (owner == NONE || depth > DEEPEST) {
                return 0;
            }
            int body = BODIES[3 * owner + move];
            stage.begin(body);
            int above = Kinds.above(owner);
            int deeper = depth + 1;
            switch (body) {
                case 10:
                    return x + stage.m;
                case 11:
                    return run(stage, PLAYS, stage.kind, x, deeper) * 2;
                case 12:
                    return run(stage, GIVES, stage.kind, x, deeper)
                            ^ run(stage, PLAYS, stage.kind, x - stage.k, deeper);
                case 20:
                    return run(stage, PLAYS, above, x, deeper) + stage.k;
                case 30:
                    return run(stage, GIVES, above, x, deeper) * 3;
                case 40:
                    return run(stage, GIVES, above, x + 1, deeper);
                case 50:
                    return -run(stage, BOWS, above, x, deeper);
                case 51:
                    return run(stage, PLAYS, above, x, deeper) - stage.m;
                case 60:
                    return run(stage, BOWS, above, x, deeper) ^ 5;
                case 70:
                    return run(stage, PLAYS, above, x, deeper) * 2;
                default:
                    return run(stage, GIVES, above, x - stage.k, deeper);
            }
        }

        private static int ownerOf(int move, int from) {
            int owner = from;
            for (int level = 0; level < Kinds.PAYING && owner != NONE; level++) {
                if (BODIES[3 * owner + move] != 0) {
                    return owner;
                }
                owner = Kinds.above(owner);
            }
            return NONE;
        }

        private void begin(int body) {
            if (ran < MOST_KEPT) {
                kept[ran] = body;
            }
            ran++;
        }
    }
}
