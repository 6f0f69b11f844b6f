import java.util.Arrays;

/**
 * A wall of keepers who must all light their fires in the same breath, by one book of rules for all.
 * The document tells each call; README.md tells how to use the class.
 */
public final class BeaconWall {
    public static final int NONE = -1;

    private static final int MINDS = 8;
    private static final int BEGIN = 1;
    private static final int LIT = 7;
    private static final int NOBODY = 8;
    private static final int SEEN = 9;
    private static final int CASES = MINDS * SEEN * SEEN;
    /** The cases of own 0 .. 6 stand first: one whose fire is lit asks nobody. */
    private static final int ASKING_CASES = LIT * SEEN * SEEN;
    private static final int PAGES = 4;
    private static final int BOOKS = 1 << PAGES;
    private static final int PAGE_RULES = 24;
    private static final int RULES = PAGES * PAGE_RULES;
    private static final int SAME = 8;
    private static final int KEEPERS = 32;
    private static final int LONGEST = 24;
    private static final int PLAN = 4;
    private static final int TREE = 5;
    private static final int TEXT_LINES = 16;
    private static final int LOG_LINES = 150;
    private static final int MOST_MARKS = 8;
    private static final int LAST_BREATH = 9999;
    private static final int NO_FIRE = NONE - 99;
    private static final int NO_FRACTION = NONE - 9999999;

    /** What is done to a keeper, by hand or by PLAN; the same numbers stand in THE LOG. */
    private static final int TOLD = 0;
    private static final int DEAF = 1;
    private static final int AWAKE = 2;
    private static final int LATE = 3;
    private static final int IN_TIME = 4;
    private static final int GATE = 5;
    private static final int FIRST_FIRE = 6;

    private final State state;
    private final State imageState;
    private boolean imageTaken;
    private final Past past;
    private final Reader reader;
    private final Trials trials;
    private final Rounds rounds;
    private final Forebears forebears;
    private final int[] knownBehind;

    public BeaconWall() {
        state = new State();
        imageState = new State();
        imageTaken = false;
        past = new Past();
        reader = new Reader();
        trials = new Trials();
        rounds = new Rounds();
        forebears = new Forebears();
        knownBehind = new int[KEEPERS];
    }

    // ---- the wall

    public boolean wall(int n, boolean round) {
        if (!isWithin(n, 0, KEEPERS)) {
            return false;
        }
        state.wall.build(n, round);
        past.forget();
        return true;
    }

    public boolean act(int what, int who, int v) {
        int kind = kindOfAct(what, v);
        if (kind == NONE || !state.wall.has(who)) {
            return false;
        }
        past.keep(state);
        state.perform(kind, who, kind == TOLD || kind == GATE ? v : 0);
        return true;
    }

    private static int kindOfAct(int what, int v) {
        if (what == 0) {
            return isWithin(v, 0, LIT) ? TOLD : NONE;
        }
        if (what == 3) {
            return isWithin(v, 0, 3) ? GATE : NONE;
        }
        if (!isWithin(v, 0, 1)) {
            return NONE;
        }
        if (what == 1) {
            return v == 1 ? DEAF : AWAKE;
        }
        if (what == 2) {
            return v == 1 ? LATE : IN_TIME;
        }
        return NONE;
    }

    public int breaths(int n) {
        if (!isWithin(n, 1, 60) || state.wall.breath + n > LAST_BREATH) {
            return NONE;
        }
        for (int i = 0; i < n; i++) {
            past.keep(state);
            state.breathe();
        }
        return state.wall.litCount();
    }

    public int of(int keeper, int what) {
        Wall wall = state.wall;
        if (!wall.has(keeper)) {
            return NONE;
        }
        switch (what) {
            case 0:
                return wall.minds[keeper];
            case 1:
                return wall.was[keeper];
            case 2:
                return wall.isDeaf(keeper) ? 1 : 0;
            case 3:
                return wall.isLate(keeper) ? 1 : 0;
            case 4:
                return wall.gates[keeper];
            case 5:
                return wall.mindSeenLeft(keeper);
            case 6:
                return wall.mindSeenRight(keeper);
            default:
                return NONE;
        }
    }

    public int log(int i, int what) {
        return state.log.cell(i, what);
    }

    public boolean undo() {
        return past.goBack(state);
    }

    public boolean image(boolean taken) {
        if (taken) {
            imageState.copyFrom(state);
            imageTaken = true;
            return true;
        }
        if (!imageTaken) {
            return false;
        }
        state.copyFrom(imageState);
        past.forget();
        return true;
    }

    public int look(int what) {
        Wall wall = state.wall;
        if (isWithin(what, 8, 11)) {
            return state.book.pages[what - 8].count;
        }
        switch (what) {
            case 0:
                return wall.keepers;
            case 1:
                return wall.isRing ? 1 : 0;
            case 2:
                return wall.breath;
            case 3:
                return wall.asked;
            case 4:
                return wall.first;
            case 5:
                return wall.together;
            case 6:
                return wall.litCount();
            case 7:
                return state.log.count;
            case 12:
                return state.plan.count;
            case 13:
                return state.tree.count;
            case 14:
                return state.otherBook.ruleCount();
            case 15:
                return past.count;
            default:
                return NONE;
        }
    }

    // ---- the texts

    public int feed(int a, int b, int c, int d, int e) {
        return reader.take(a, b, c, d, e);
    }

    public boolean end(int n) {
        return reader.cutTo(n);
    }

    public int text(int k) {
        int lines = NONE;
        reader.open();
        if (isWithin(k, 0, PAGES - 1)) {
            lines = tellPage(k);
        } else if (k == PLAN) {
            lines = tellPlan();
        } else if (k == TREE) {
            lines = tellTree();
        }
        reader.cutTo(0);
        return lines;
    }

    private int tellPage(int k) {
        if (!reader.readPage()) {
            return NONE;
        }
        state.book.pages[k].copyFrom(reader.page);
        state.book.settle();
        past.forget();
        return reader.page.count;
    }

    private int tellPlan() {
        if (!reader.readPlan()) {
            return NONE;
        }
        state.plan.copyFrom(reader.lines);
        past.forget();
        return reader.lines.count;
    }

    private int tellTree() {
        if (!reader.readTree()) {
            return NONE;
        }
        state.tree.copyFrom(reader.lines);
        return reader.lines.count;
    }

    public int fault(int what) {
        if (what == 0) {
            return reader.faultKind;
        }
        return what == 1 ? reader.faultPlace : NONE;
    }

    // ---- the book

    public int says(int own, int left, int right, int what) {
        if (!isWithin(own, 0, LIT) || !isWithin(left, 0, NOBODY) || !isWithin(right, 0, NOBODY)) {
            return NONE;
        }
        int asked = caseOf(own, left, right);
        if (what == 0) {
            return state.book.said[asked];
        }
        return what == 1 ? state.book.decider[asked] : NONE;
    }

    public int keeps() {
        state.otherBook.copyFrom(state.book);
        return state.otherBook.ruleCount();
    }

    public int quiet(int what) {
        if (!isWithin(what, 0, 1)) {
            return NONE;
        }
        int set = 0;
        for (int mind = 0; mind < MINDS; mind++) {
            int beside = what == 0 ? mind : NOBODY;
            if (state.book.said[caseOf(mind, beside, beside)] == mind) {
                set |= 1 << mind;
            }
        }
        return set;
    }

    public int rules(int what) {
        Book book = state.book;
        switch (what) {
            case 0:
                return book.clashes();
            case 1:
                trials.askAll();
                return book.ruleCount() - trials.deciders(book);
            case 2:
                trials.askAll();
                return trials.leastIdle(book);
            case 3:
                return book.unmirrored() == 0 ? 1 : 0;
            case 4:
                return book.unmirrored();
            default:
                return NONE;
        }
    }

    public int unlike(int p, int q, int what) {
        if (!isWithin(p, 0, PAGES - 1) || !isWithin(q, 0, PAGES - 1) || !isWithin(what, 0, 1)) {
            return NONE;
        }
        Page one = state.book.pages[p];
        Page other = state.book.pages[q];
        int count = 0;
        int least = NONE;
        for (int asked = 0; asked < ASKING_CASES; asked++) {
            int own = ownOf(asked);
            int left = leftOf(asked);
            int right = rightOf(asked);
            if (one.answer(own, left, right) != other.answer(own, left, right)) {
                least = count == 0 ? 100 * own + 10 * left + right : least;
                count++;
            }
        }
        return what == 0 ? count : least;
    }

    // ---- in thought: runs of one book

    public int fires(int n, int b, int what) {
        return isRun(n, b) ? firesOf(n, b, false).outcome(what) : NONE;
    }

    public int ring(int n, int b, int what) {
        return isRun(n, b) ? firesOf(n, b, true).outcome(what) : NONE;
    }

    private Run firesOf(int n, int b, boolean onRing) {
        Run run = trials.run;
        run.start(n, b, onRing);
        run.finish(state.book.said);
        return run;
    }

    public int trees(int what) {
        Run run = trials.run;
        run.startTree(state.tree);
        run.finish(state.book.said);
        return run.outcome(what);
    }

    public int works(int to, int what) {
        if (!isLength(to) || !isWithin(what, 0, 2)) {
            return NONE;
        }
        int bad = trials.firstBad(state.book.said, to);
        if (bad == NONE || what == 0) {
            return bad;
        }
        return trials.run.outcome(what == 1 ? 0 : 2);
    }

    public int soon(int n, int b, int what) {
        if (!isRun(n, b) || !isWithin(what, 0, 1)) {
            return NO_FIRE;
        }
        int least = 2 * n - 2 - Math.min(b, n - 1 - b);
        if (what == 0) {
            return least;
        }
        Run run = firesOf(n, b, false);
        return run.lit == 0 ? NO_FIRE : run.breaths - least;
    }

    public int used(int to, int what) {
        if (!isLength(to) || !isWithin(what, 0, 2)) {
            return NONE;
        }
        trials.noteRuns(state.book.said, to);
        if (what == 2) {
            return trials.mindsSeen;
        }
        return what == 0 ? trials.deciders(state.book) : trials.leastIdle(state.book);
    }

    public int two(int to, int d) {
        if (!isWithin(to, 2, LONGEST) || !isWithin(d, 0, 40)) {
            return NONE;
        }
        for (int n = 2; n <= to; n++) {
            if (!isGoodWithTwo(n, d)) {
                return n;
            }
        }
        return NONE;
    }

    private boolean isGoodWithTwo(int n, int d) {
        Run run = trials.run;
        run.start(n, 0, false);
        for (int t = 0; t < run.most && run.lit == 0; t++) {
            if (t == d) {
                run.minds[n - 1] = BEGIN;
            }
            run.breathe(state.book.said);
        }
        return run.isGood();
    }

    public int deafened(int n, int k, int what) {
        if (!isRun(n, k) || !isWithin(what, 0, 1)) {
            return NONE;
        }
        Run run = trials.run;
        run.start(n, 0, false);
        run.deaf = k;
        int most = 0;
        int breath = NONE;
        for (int t = 1; t <= run.most; t++) {
            int litAhead = run.lit;
            run.breathe(state.book.said);
            if (run.lit - litAhead > most) {
                most = run.lit - litAhead;
                breath = t;
            }
        }
        return what == 0 ? most : breath;
    }

    public int picture(int n, int b, int t, int k) {
        if (!isRun(n, b) || !isWithin(t, 0, 116) || !isWithin(k, 0, n - 1)) {
            return NONE;
        }
        Run run = trials.run;
        run.start(n, b, false);
        for (int i = 0; i < t && run.goesOn(); i++) {
            run.breathe(state.book.said);
        }
        return run.minds[k];
    }

    public int mark(int n, int b, int mind, int k) {
        if (!isRun(n, b) || !isWithin(mind, 0, LIT) || !isWithin(k, 0, n - 1)) {
            return NONE;
        }
        Run run = trials.run;
        run.start(n, b, false);
        for (int t = 0; t < run.most && run.lit == 0 && run.minds[k] != mind; t++) {
            run.breathe(state.book.said);
        }
        return run.minds[k] == mind ? run.breaths : NONE;
    }

    public int stir(int n, int b, int what) {
        if (!isRun(n, b) || !isWithin(what, 0, 2)) {
            return NONE;
        }
        Run run = trials.run;
        run.start(n, b, false);
        int still = 0;
        int most = 0;
        int breath = NONE;
        for (int t = 1; t <= run.most && run.lit == 0; t++) {
            run.breathe(state.book.said);
            if (run.changed == 0) {
                still++;
            }
            if (run.changed > most) {
                most = run.changed;
                breath = t;
            }
        }
        if (what == 0) {
            return still;
        }
        return what == 1 ? most : breath;
    }

    public int crowd(int n, int b, int mind, int what) {
        if (!isRun(n, b) || !isWithin(mind, 0, LIT) || !isWithin(what, 0, 2)) {
            return NONE;
        }
        Run run = trials.run;
        run.start(n, b, false);
        int ever = run.whoHas(mind);
        int most = Integer.bitCount(ever);
        int breath = 0;
        for (int t = 1; t <= run.most && run.lit == 0; t++) {
            run.breathe(state.book.said);
            int now = run.whoHas(mind);
            ever |= now;
            if (Integer.bitCount(now) > most) {
                most = Integer.bitCount(now);
                breath = t;
            }
        }
        if (what == 0) {
            return most;
        }
        return what == 1 ? breath : Integer.bitCount(ever);
    }

    public int begun(int n, int what) {
        if (!isWithin(n, 1, KEEPERS) || !isWithin(what, 0, 2)) {
            return NONE;
        }
        int good = 0;
        int leastBad = NONE;
        int shortest = NONE;
        int fewest = 0;
        for (int b = 0; b < n; b++) {
            Run run = firesOf(n, b, false);
            if (!run.isGood()) {
                leastBad = leastBad == NONE ? b : leastBad;
                continue;
            }
            good++;
            if (shortest == NONE || run.breaths < fewest) {
                shortest = b;
                fewest = run.breaths;
            }
        }
        if (what == 0) {
            return good;
        }
        return what == 1 ? leastBad : shortest;
    }

    // ---- in thought: other books than this one

    public int worn(int rule, int to) {
        if (!state.book.has(rule) || !isLength(to)) {
            return NONE;
        }
        return trials.firstBadWithout(state.book, rule, to);
    }

    public int mends(int rule, int to) {
        if (!state.book.has(rule) || !isLength(to)) {
            return NONE;
        }
        return trials.mendingMinds(state.book, rule, to);
    }

    public int more(int to, int what) {
        if (!isWithin(to, 1, 8) || !isWithin(what, 0, 1)) {
            return NONE;
        }
        trials.tryOneRuleMore(state.book, to);
        return what == 0 ? trials.found : trials.least;
    }

    public int alike(int to, int what) {
        if (!isLength(to) || !isWithin(what, 0, 2)) {
            return NONE;
        }
        for (int n = 1; n <= to; n++) {
            int keeper = trials.firstUnlike(state.book.said, state.otherBook.said, n);
            if (keeper != NONE) {
                return what == 0 ? n : what == 1 ? trials.run.breaths : keeper;
            }
        }
        return NONE;
    }

    public int enough(int to) {
        return isLength(to) ? trials.fewestPages(state.book, to) : NONE;
    }

    public int mixed(int to, int what) {
        if (!isLength(to) || !isWithin(what, 0, 1)) {
            return NONE;
        }
        trials.tryMixedBooks(state.book, state.otherBook, to);
        return what == 0 ? trials.found : trials.least;
    }

    // ---- in thought: the wall as it is

    public int before() {
        Wall wall = state.wall;
        return wall.keepers == 0 ? NONE : forebears.count(wall.minds, wall.keepers, state.book.said);
    }

    public int round(int what) {
        if (!isWithin(what, 0, 1)) {
            return NONE;
        }
        rounds.follow(state.wall, state.book);
        return what == 0 ? rounds.returned : rounds.length;
    }

    public int heard(int k, int j, int t) {
        Wall wall = state.wall;
        if (!wall.has(k)) {
            return NONE;
        }
        if (j == NONE) {
            if (!isWithin(t, 0, 200)) {
                return NONE;
            }
            spreadFrom(k);
            return knowersBehind(t);
        }
        if (!wall.has(j)) {
            return NONE;
        }
        spreadFrom(k);
        return knownBehind[j];
    }

    private void spreadFrom(int k) {
        Wall wall = state.wall;
        Arrays.fill(knownBehind, NONE);
        knownBehind[k] = 0;
        boolean again = true;
        // The shortest way passes each keeper once, so as many rounds as keepers are enough.
        for (int i = 0; i < wall.keepers && again; i++) {
            again = false;
            for (int keeper = 0; keeper < wall.keepers; keeper++) {
                boolean byLeft = hearsFrom(keeper, wall.keeperSeenLeft(keeper));
                boolean byRight = hearsFrom(keeper, wall.keeperSeenRight(keeper));
                again = again || byLeft || byRight;
            }
        }
    }

    /** Whether the keeper knows it sooner by the one he sees; knownBehind is so then. */
    private boolean hearsFrom(int keeper, int seen) {
        if (seen == NONE || knownBehind[seen] == NONE || state.wall.isDeaf(keeper)) {
            return false;
        }
        int behind = knownBehind[seen] + (state.wall.isLate(keeper) ? 2 : 1);
        if (knownBehind[keeper] != NONE && knownBehind[keeper] <= behind) {
            return false;
        }
        knownBehind[keeper] = behind;
        return true;
    }

    private int knowersBehind(int t) {
        int count = 0;
        for (int keeper = 0; keeper < state.wall.keepers; keeper++) {
            if (isWithin(knownBehind[keeper], 0, t)) {
                count++;
            }
        }
        return count;
    }

    // ---- marks and lamps

    public int goes(int p, int s, int a, int b) {
        if (p == NONE) {
            state.marks.cutTo(0);
            return 0;
        }
        if (!isWithin(p, 0, 99) || !isWithin(s, 0, 99) || !isWithin(a, -9, 9) || !isWithin(b, 1, 9)) {
            return NONE;
        }
        return state.marks.add(p, s, a, b) ? state.marks.count : NONE;
    }

    public int meets(int i, int j, int what) {
        Rows marks = state.marks;
        if (i == j || !marks.has(i) || !marks.has(j) || !isWithin(what, 0, 3)) {
            return NO_FRACTION;
        }
        int p = marks.cell(i, 0);
        int s = marks.cell(i, 1);
        int a = marks.cell(i, 2);
        int b = marks.cell(i, 3);
        int otherA = marks.cell(j, 2);
        int otherB = marks.cell(j, 3);
        int below = a * otherB - otherA * b;
        if (below == 0) {
            return NO_FRACTION;
        }
        int above = (marks.cell(j, 0) - p) * b * otherB + a * s * otherB - otherA * marks.cell(j, 1) * b;
        if (what < 2) {
            return partOf(above, below, what == 1);
        }
        return partOf(p * b * below + a * (above - s * below), b * below, what == 3);
    }

    public int echo(int i, int n, int t, int what) {
        Rows marks = state.marks;
        if (!marks.has(i) || !isWithin(n, 2, 99) || !isWithin(t, 0, 999) || !isWithin(what, 0, 1)) {
            return NO_FRACTION;
        }
        int p = marks.cell(i, 0);
        int b = marks.cell(i, 3);
        if (p > n - 1 || b < 1) {
            return NO_FRACTION;
        }
        int span = (n - 1) * b;
        int place = Math.floorMod(p * b + marks.cell(i, 2) * t, 2 * span);
        return partOf(place > span ? 2 * span - place : place, b, what == 1);
    }

    /** Of a fraction in lowest terms what stands above, or below (above 0); below must not be 0. */
    private static int partOf(int above, int below, boolean wantsBelow) {
        int common = commonDivisor(Math.abs(above), Math.abs(below));
        if (common == 0) {
            return NO_FRACTION;
        }
        int sign = below < 0 ? -1 : 1;
        return sign * (wantsBelow ? below : above) / common;
    }

    private static int commonDivisor(int a, int b) {
        int greater = a;
        int lesser = b;
        for (int i = 0; i < 100 && lesser != 0; i++) {
            int rest = greater % lesser;
            greater = lesser;
            lesser = rest;
        }
        return greater;
    }

    public int lights(int n, int lit, int what) {
        if (!isWithin(n, 1, 12) || !isWithin(lit, 0, (1 << n) - 1) || !isWithin(what, 0, 1)) {
            return NONE;
        }
        int all = (1 << n) - 1;
        int best = NONE;
        for (int touched = 0; touched <= all; touched++) {
            int changed = (touched ^ touched << 1 ^ touched >> 1) & all;
            boolean lightsAll = (lit ^ changed) == all;
            if (lightsAll && (best == NONE || Integer.bitCount(touched) < Integer.bitCount(best))) {
                best = touched;
            }
        }
        return what == 0 && best != NONE ? Integer.bitCount(best) : best;
    }

    // ---- what may be

    private static boolean isWithin(int value, int least, int most) {
        return value >= least && value <= most;
    }

    private static boolean isRun(int n, int keeper) {
        return isWithin(n, 1, KEEPERS) && isWithin(keeper, 0, n - 1);
    }

    private static boolean isLength(int to) {
        return isWithin(to, 1, LONGEST);
    }

    /** A case is an own, a left and a right in one number, in the order in which the least is sought. */
    private static int caseOf(int own, int left, int right) {
        return (own * SEEN + left) * SEEN + right;
    }

    private static int ownOf(int asked) {
        return asked / (SEEN * SEEN);
    }

    private static int leftOf(int asked) {
        return asked / SEEN % SEEN;
    }

    private static int rightOf(int asked) {
        return asked % SEEN;
    }

    /** A PAGE: for each thing that can be seen the set of its RULES (a bit each) that it fits. */
    private static final class Page {
        private static final int ALL = (1 << SEEN) - 1;

        private final int[] own = new int[SEEN];
        private final int[] left = new int[SEEN];
        private final int[] right = new int[SEEN];
        private final int[] mind = new int[PAGE_RULES];
        private int count = 0;

        void clear() {
            Arrays.fill(own, 0);
            Arrays.fill(left, 0);
            Arrays.fill(right, 0);
            count = 0;
        }

        void copyFrom(Page other) {
            System.arraycopy(other.own, 0, own, 0, SEEN);
            System.arraycopy(other.left, 0, left, 0, SEEN);
            System.arraycopy(other.right, 0, right, 0, SEEN);
            System.arraycopy(other.mind, 0, mind, 0, PAGE_RULES);
            count = other.count;
        }

        boolean has(int i) {
            return isWithin(i, 0, count - 1);
        }

        /** The sets have a bit for each thing seen, NOBODY too. */
        void add(int ownSet, int leftSet, int rightSet, int newMind) {
            if (count >= PAGE_RULES) {
                return;
            }
            for (int seen = 0; seen < SEEN; seen++) {
                own[seen] |= (ownSet >> seen & 1) << count;
                left[seen] |= (leftSet >> seen & 1) << count;
                right[seen] |= (rightSet >> seen & 1) << count;
            }
            mind[count] = newMind;
            count++;
        }

        /** The RULE keeps its place, so that those behind it keep their numbers, but fits nothing. */
        void wearOut(int i) {
            for (int seen = 0; seen < SEEN; seen++) {
                own[seen] &= ~(1 << i);
            }
        }

        int firstFit(int ownMind, int leftSeen, int rightSeen) {
            int fits = own[ownMind] & left[leftSeen] & right[rightSeen];
            return fits == 0 ? NONE : Integer.numberOfTrailingZeros(fits);
        }

        int mindBy(int i, int ownMind) {
            return mind[i] == SAME ? ownMind : mind[i];
        }

        /** What the PAGE says, if it is the whole book. */
        int answer(int ownMind, int leftSeen, int rightSeen) {
            int i = firstFit(ownMind, leftSeen, rightSeen);
            return i == NONE ? ownMind : mindBy(i, ownMind);
        }

        /** Whether RULE i and RULE j of the other PAGE fit one case in common and say unlike there. */
        boolean clashes(int i, Page other, int j) {
            if (!shareOne(left, i, other.left, j) || !shareOne(right, i, other.right, j)) {
                return false;
            }
            for (int ownMind = 0; ownMind < LIT; ownMind++) {
                boolean both = (own[ownMind] >> i & other.own[ownMind] >> j & 1) != 0;
                if (both && mindBy(i, ownMind) != other.mindBy(j, ownMind)) {
                    return true;
                }
            }
            return false;
        }

        private static boolean shareOne(int[] fits, int i, int[] otherFits, int j) {
            for (int seen = 0; seen < SEEN; seen++) {
                if ((fits[seen] >> i & otherFits[seen] >> j & 1) != 0) {
                    return true;
                }
            }
            return false;
        }
    }

    /** A book: its PAGES, and for each case what it says and which RULE decides, worked out ahead. */
    private static final class Book {
        private final Page[] pages = new Page[PAGES];
        private final int[] said = new int[CASES];
        private final int[] decider = new int[CASES];

        Book() {
            for (int p = 0; p < PAGES; p++) {
                pages[p] = new Page();
            }
            for (int asked = 0; asked < CASES; asked++) {
                said[asked] = asked / (SEEN * SEEN);
                decider[asked] = NONE;
            }
        }

        void copyFrom(Book other) {
            for (int p = 0; p < PAGES; p++) {
                pages[p].copyFrom(other.pages[p]);
            }
            System.arraycopy(other.said, 0, said, 0, CASES);
            System.arraycopy(other.decider, 0, decider, 0, CASES);
        }

        /** Works the answers out anew; to be called when a PAGE is another. */
        void settle() {
            for (int asked = 0; asked < ASKING_CASES; asked++) {
                settleCase(asked, ownOf(asked), leftOf(asked), rightOf(asked));
            }
        }

        private void settleCase(int asked, int own, int left, int right) {
            said[asked] = own;
            decider[asked] = NONE;
            for (int p = 0; p < PAGES; p++) {
                int i = pages[p].firstFit(own, left, right);
                if (i != NONE) {
                    said[asked] = pages[p].mindBy(i, own);
                    decider[asked] = PAGE_RULES * p + i;
                    return;
                }
            }
        }

        boolean has(int rule) {
            return isWithin(rule, 0, RULES - 1) && pages[rule / PAGE_RULES].has(rule % PAGE_RULES);
        }

        int ruleCount() {
            int count = 0;
            for (int p = 0; p < PAGES; p++) {
                count += pages[p].count;
            }
            return count;
        }

        int clashes() {
            int couples = 0;
            for (int rule = 0; rule < RULES; rule++) {
                if (has(rule)) {
                    couples += clashesBehind(rule);
                }
            }
            return couples;
        }

        private int clashesBehind(int rule) {
            Page page = pages[rule / PAGE_RULES];
            int couples = 0;
            for (int later = rule + 1; later < RULES; later++) {
                Page laterPage = pages[later / PAGE_RULES];
                if (has(later) && page.clashes(rule % PAGE_RULES, laterPage, later % PAGE_RULES)) {
                    couples++;
                }
            }
            return couples;
        }

        int unmirrored() {
            int count = 0;
            for (int asked = 0; asked < CASES; asked++) {
                if (said[asked] != said[caseOf(ownOf(asked), rightOf(asked), leftOf(asked))]) {
                    count++;
                }
            }
            return count;
        }
    }

    /** Lines of four numbers each, up to as many as there may be: PLAN, TREE, THE LOG, the MARKS. */
    private static final class Rows {
        private static final int WIDTH = 4;

        private final int[] cells;
        private final int most;
        private int count = 0;

        Rows(int mostLines) {
            most = Math.max(0, mostLines);
            cells = new int[most * WIDTH];
        }

        boolean has(int i) {
            return isWithin(i, 0, count - 1);
        }

        boolean isFull() {
            return count >= most;
        }

        int cell(int i, int column) {
            boolean isThere = isWithin(i, 0, count - 1) && isWithin(column, 0, WIDTH - 1);
            return isThere ? cells[i * WIDTH + column] : NONE;
        }

        boolean add(int a, int b, int c, int d) {
            if (isFull()) {
                return false;
            }
            int at = count * WIDTH;
            cells[at] = a;
            cells[at + 1] = b;
            cells[at + 2] = c;
            cells[at + 3] = d;
            count++;
            return true;
        }

        void cutTo(int lines) {
            if (isWithin(lines, 0, count)) {
                count = lines;
            }
        }

        void copyFrom(Rows other) {
            count = Math.min(other.count, most);
            System.arraycopy(other.cells, 0, cells, 0, count * WIDTH);
        }
    }

    /** The TAPE, and how it is read: the latest FAULT stays here, what was read stands in page or lines. */
    private static final class Reader {
        private static final int LENGTH = 400;
        private static final int FED = 20;

        private static final int OVER = 0;
        private static final int BAD = 1;
        private static final int NUMBER = 2;
        private static final int SEMICOLON = 3;
        private static final int COMMA = 4;
        private static final int ARROW = 5;
        /** The KEYWORDS' kinds follow one another as the words do in WORDS. */
        private static final int ANY = 6;
        private static final int NOT = 7;
        private static final int NO_KEEPER = 8;
        private static final int SAME_WORD = 9;
        private static final int AT = 10;
        private static final int TELL = 11;
        private static final int GATE_WORD = 16;
        private static final int KEEPER_WORD = 17;
        private static final int BELOW = 18;
        private static final String WORDS =
            "any    not    end    same   at     tell   deaf   wake   late   soon   gate   keeper below  ";
        private static final int WORD_COUNT = 13;
        private static final int WORD_WIDTH = 7;

        private static final int MISPLACED = 1;
        private static final int BEYOND = 2;
        private static final int TOO_MANY = 3;

        private final int[] bytes = new int[LENGTH];
        private int length = 0;
        /** The TOKENS, the last one OVER: each is at least a byte long. */
        private final int[] kinds = new int[LENGTH + 1];
        private final int[] starts = new int[LENGTH + 1];
        private final int[] values = new int[LENGTH + 1];
        private int token = 0;
        private int kind = OVER;
        private int faultKind = 0;
        private int faultPlace = NONE;
        private final Page page = new Page();
        private final Rows lines = new Rows(TEXT_LINES);

        int take(int a, int b, int c, int d, int e) {
            if (length + FED > LENGTH) {
                return NONE;
            }
            takeNumber(a);
            takeNumber(b);
            takeNumber(c);
            takeNumber(d);
            takeNumber(e);
            return length;
        }

        private void takeNumber(int number) {
            for (int shift = 24; shift >= 0 && length < LENGTH; shift -= 8) {
                bytes[length] = number >>> shift & 255;
                length++;
            }
        }

        boolean cutTo(int n) {
            if (!isWithin(n, 0, length)) {
                return false;
            }
            length = n;
            return true;
        }

        void open() {
            faultKind = 0;
            faultPlace = NONE;
            page.clear();
            lines.cutTo(0);
            findTokens();
            token = 0;
            kind = kinds[0];
        }

        // ---- tokens

        private void findTokens() {
            int count = 0;
            int place = 0;
            for (int i = 0; i < LENGTH && place < length; i++) {
                if (isBlank(bytes[place])) {
                    place++;
                } else {
                    int next = behindToken(place);
                    noteToken(count, place, next);
                    count++;
                    place = next;
                }
            }
            kinds[count] = OVER;
            starts[count] = length;
        }

        private int behindToken(int start) {
            int next = start + 1;
            boolean isWord = isLetter(bytes[start]);
            boolean isNumber = isDigit(bytes[start]);
            while (next < length && (isWord && isLetter(bytes[next]) || isNumber && isDigit(bytes[next]))) {
                next++;
            }
            return next;
        }

        private void noteToken(int i, int start, int next) {
            starts[i] = start;
            values[i] = 0;
            if (isLetter(bytes[start])) {
                kinds[i] = kindOfWord(start, next);
            } else if (isDigit(bytes[start])) {
                kinds[i] = next - start <= 4 ? NUMBER : BAD;
                values[i] = kinds[i] == NUMBER ? valueOf(start, next) : 0;
            } else {
                kinds[i] = kindOfSign(bytes[start]);
            }
        }

        private int kindOfWord(int start, int next) {
            for (int word = 0; word < WORD_COUNT && next - start < WORD_WIDTH; word++) {
                if (spells(word, start, next)) {
                    return ANY + word;
                }
            }
            return BAD;
        }

        private boolean spells(int word, int start, int next) {
            for (int i = 0; i < WORD_WIDTH; i++) {
                int letter = start + i < next ? bytes[start + i] : ' ';
                if (WORDS.charAt(word * WORD_WIDTH + i) != letter) {
                    return false;
                }
            }
            return true;
        }

        private int valueOf(int start, int next) {
            int value = 0;
            for (int i = start; i < next; i++) {
                value = value * 10 + bytes[i] - '0';
            }
            return value;
        }

        private static int kindOfSign(int sign) {
            switch (sign) {
                case ';':
                    return SEMICOLON;
                case ',':
                    return COMMA;
                case '>':
                    return ARROW;
                default:
                    return BAD;
            }
        }

        private static boolean isBlank(int sign) {
            return sign == ' ' || sign == '\n';
        }

        private static boolean isLetter(int sign) {
            return isWithin(sign, 'a', 'z') || isWithin(sign, 'A', 'Z');
        }

        private static boolean isDigit(int sign) {
            return isWithin(sign, '0', '9');
        }

        // ---- what can stand where

        private void advance() {
            if (kind != OVER) {
                token++;
                kind = kinds[token];
            }
        }

        /** Always false, so that who finds a FAULT can answer with it. */
        private boolean refuse(int what) {
            faultKind = what;
            faultPlace = starts[token];
            return false;
        }

        private boolean pass(int wanted) {
            if (kind != wanted) {
                return refuse(MISPLACED);
            }
            advance();
            return true;
        }

        /** The NUMBER that stands here, or NONE with a FAULT; it is not passed yet. */
        private int numberHere(int least, int most) {
            if (kind != NUMBER) {
                refuse(MISPLACED);
                return NONE;
            }
            if (!isWithin(values[token], least, most)) {
                refuse(BEYOND);
                return NONE;
            }
            return values[token];
        }

        private int passNumber(int least, int most) {
            int number = numberHere(least, most);
            if (number != NONE) {
                advance();
            }
            return number;
        }

        boolean readPage() {
            for (int line = 0; line <= PAGE_RULES && kind != OVER; line++) {
                if (!readRule()) {
                    return false;
                }
            }
            return true;
        }

        private boolean readRule() {
            if (page.count >= PAGE_RULES && canBeginRule()) {
                return refuse(TOO_MANY);
            }
            int own = passPattern();
            int left = own == NONE ? NONE : passPattern();
            int right = left == NONE ? NONE : passPattern();
            if (right == NONE || !pass(ARROW)) {
                return false;
            }
            int mind = passOr(SAME_WORD, SAME);
            if (mind == NONE || !pass(SEMICOLON)) {
                return false;
            }
            page.add(own, left, right, mind);
            return true;
        }

        /** What can't begin a RULE is a lesser FAULT at the same place than one line too many. */
        private boolean canBeginRule() {
            return isWithin(kind, ANY, NO_KEEPER) || kind == NUMBER && values[token] <= LIT;
        }

        /** The set of what fits (a bit for each thing seen), or NONE with a FAULT. */
        private int passPattern() {
            if (kind == ANY) {
                advance();
                return Page.ALL;
            }
            boolean isNot = kind == NOT;
            if (isNot) {
                advance();
            }
            int set = 0;
            for (int i = 0; i < LENGTH; i++) {
                int seen = passOr(NO_KEEPER, NOBODY);
                if (seen == NONE) {
                    return NONE;
                }
                set |= 1 << seen;
                if (kind != COMMA) {
                    return isNot ? Page.ALL & ~set : set;
                }
                advance();
            }
            return NONE;
        }

        /** A MIND, or what the word stands for that may be in its place; NONE with a FAULT. */
        private int passOr(int word, int meaning) {
            int mind = kind == word ? meaning : numberHere(0, LIT);
            if (mind != NONE) {
                advance();
            }
            return mind;
        }

        boolean readPlan() {
            for (int line = 0; line <= TEXT_LINES && kind != OVER; line++) {
                if (!readPlanLine()) {
                    return false;
                }
            }
            return true;
        }

        private boolean readPlanLine() {
            if (kind == AT && lines.isFull()) {
                return refuse(TOO_MANY);
            }
            if (!pass(AT)) {
                return false;
            }
            int breath = passNumber(0, 999);
            if (breath == NONE) {
                return false;
            }
            if (!isWithin(kind, TELL, GATE_WORD)) {
                return refuse(MISPLACED);
            }
            int what = kind - TELL;
            advance();
            int keeper = passNumber(0, KEEPERS - 1);
            int much = keeper == NONE ? NONE : passMuch(what);
            if (much == NONE || !pass(SEMICOLON)) {
                return false;
            }
            return lines.add(breath, what, keeper, much);
        }

        private int passMuch(int what) {
            if (what == TOLD) {
                return passNumber(0, LIT);
            }
            return what == GATE ? passNumber(0, 3) : 0;
        }

        boolean readTree() {
            for (int line = 0; line <= TEXT_LINES && kind != OVER; line++) {
                if (!readTreeLine()) {
                    return false;
                }
            }
            return true;
        }

        private boolean readTreeLine() {
            if (kind == KEEPER_WORD && lines.isFull()) {
                return refuse(TOO_MANY);
            }
            if (!pass(KEEPER_WORD)) {
                return false;
            }
            int keeper = numberHere(1, 15);
            if (keeper == NONE) {
                return false;
            }
            if (isInTree(keeper)) {
                return refuse(BEYOND);
            }
            advance();
            if (!pass(BELOW)) {
                return false;
            }
            int above = passNumber(0, keeper - 1);
            if (above == NONE || !pass(SEMICOLON)) {
                return false;
            }
            return lines.add(keeper, above, 0, 0);
        }

        private boolean isInTree(int keeper) {
            for (int i = 0; i < lines.count; i++) {
                if (lines.cell(i, 0) == keeper) {
                    return true;
                }
            }
            return false;
        }
    }

    /** THE WALL without THE BOOK, PLAN and THE LOG; small, so that six of them can be kept for undo. */
    private static final class Wall {
        private int keepers = 0;
        private boolean isRing = false;
        private final int[] minds = new int[KEEPERS];
        private final int[] was = new int[KEEPERS];
        private final int[] gates = new int[KEEPERS];
        private final int[] answers = new int[KEEPERS];
        private int deaf = 0;
        private int late = 0;
        private int breath = 0;
        private int asked = 0;
        private int first = NONE;
        private int together = 0;

        void build(int n, boolean asRing) {
            keepers = n;
            isRing = asRing;
            Arrays.fill(minds, 0);
            Arrays.fill(was, 0);
            Arrays.fill(gates, 0);
            deaf = 0;
            late = 0;
            breath = 0;
            asked = 0;
            first = NONE;
            together = 0;
        }

        void copyFrom(Wall other) {
            keepers = other.keepers;
            isRing = other.isRing;
            System.arraycopy(other.minds, 0, minds, 0, KEEPERS);
            System.arraycopy(other.was, 0, was, 0, KEEPERS);
            System.arraycopy(other.gates, 0, gates, 0, KEEPERS);
            deaf = other.deaf;
            late = other.late;
            breath = other.breath;
            asked = other.asked;
            first = other.first;
            together = other.together;
        }

        boolean has(int keeper) {
            return isWithin(keeper, 0, keepers - 1);
        }

        boolean isDeaf(int keeper) {
            return (deaf >>> keeper & 1) != 0;
        }

        boolean isLate(int keeper) {
            return (late >>> keeper & 1) != 0;
        }

        void change(int what, int who, int much) {
            switch (what) {
                case TOLD:
                    minds[who] = much;
                    break;
                case DEAF:
                    deaf |= 1 << who;
                    break;
                case AWAKE:
                    deaf &= ~(1 << who);
                    break;
                case LATE:
                    late |= 1 << who;
                    break;
                case IN_TIME:
                    late &= ~(1 << who);
                    break;
                case GATE:
                    gates[who] = much;
                    break;
                default:
                    break;
            }
        }

        /** The keeper whom this one sees left, or NONE. */
        int keeperSeenLeft(int keeper) {
            int left = keeper > 0 ? keeper - 1 : isRing ? keepers - 1 : NONE;
            return left == NONE || (gates[left] & 2) != 0 ? NONE : left;
        }

        int keeperSeenRight(int keeper) {
            int right = keeper < keepers - 1 ? keeper + 1 : isRing ? 0 : NONE;
            return (gates[keeper] & 1) != 0 ? NONE : right;
        }

        int mindSeenLeft(int keeper) {
            return mindOfSeen(keeper, keeperSeenLeft(keeper));
        }

        int mindSeenRight(int keeper) {
            return mindOfSeen(keeper, keeperSeenRight(keeper));
        }

        private int mindOfSeen(int keeper, int seen) {
            if (seen == NONE) {
                return NOBODY;
            }
            return isLate(keeper) ? was[seen] : minds[seen];
        }

        void goOn(Book book) {
            for (int keeper = 0; keeper < keepers; keeper++) {
                answers[keeper] = answerFor(keeper, book);
            }
            System.arraycopy(minds, 0, was, 0, keepers);
            System.arraycopy(answers, 0, minds, 0, keepers);
        }

        private int answerFor(int keeper, Book book) {
            int own = minds[keeper];
            if (own == LIT || isDeaf(keeper)) {
                return own;
            }
            int question = caseOf(own, mindSeenLeft(keeper), mindSeenRight(keeper));
            if (book.decider[question] != NONE) {
                asked++;
            }
            return book.said[question];
        }

        int litCount() {
            int count = 0;
            for (int keeper = 0; keeper < keepers; keeper++) {
                if (minds[keeper] == LIT) {
                    count++;
                }
            }
            return count;
        }

        int leastLit() {
            for (int keeper = 0; keeper < keepers; keeper++) {
                if (minds[keeper] == LIT) {
                    return keeper;
                }
            }
            return NONE;
        }
    }

    /** All that is and was told; THE IMAGE is a second one. */
    private static final class State {
        private final Book book = new Book();
        private final Book otherBook = new Book();
        private final Rows plan = new Rows(TEXT_LINES);
        private final Rows tree = new Rows(TEXT_LINES);
        private final Wall wall = new Wall();
        private final Rows log = new Rows(LOG_LINES);
        private final Rows marks = new Rows(MOST_MARKS);

        void copyFrom(State other) {
            book.copyFrom(other.book);
            otherBook.copyFrom(other.otherBook);
            plan.copyFrom(other.plan);
            tree.copyFrom(other.tree);
            wall.copyFrom(other.wall);
            log.copyFrom(other.log);
            marks.copyFrom(other.marks);
        }

        void perform(int what, int who, int much) {
            wall.change(what, who, much);
            log.add(wall.breath, what, who, much);
        }

        void breathe() {
            performPlan();
            wall.goOn(book);
            noteFirstFire();
            wall.breath++;
        }

        private void performPlan() {
            for (int i = 0; i < plan.count; i++) {
                int who = plan.cell(i, 2);
                if (plan.cell(i, 0) == wall.breath && wall.has(who)) {
                    perform(plan.cell(i, 1), who, plan.cell(i, 3));
                }
            }
        }

        private void noteFirstFire() {
            int lit = wall.litCount();
            if (wall.first != NONE || lit == 0) {
                return;
            }
            wall.first = wall.breath;
            wall.together = lit;
            log.add(wall.breath, FIRST_FIRE, wall.leastLit(), lit);
        }
    }

    /** What can be undone. THE LOG only grows but for undo, so its length is all that is kept of it. */
    private static final class Past {
        private static final int MOST = 6;

        private final Wall[] walls = new Wall[MOST];
        private final int[] logLines = new int[MOST];
        private int latest = 0;
        private int count = 0;

        Past() {
            for (int i = 0; i < MOST; i++) {
                walls[i] = new Wall();
            }
        }

        void keep(State state) {
            latest = (latest + 1) % MOST;
            walls[latest].copyFrom(state.wall);
            logLines[latest] = state.log.count;
            count = Math.min(count + 1, MOST);
        }

        boolean goBack(State state) {
            if (count == 0) {
                return false;
            }
            state.wall.copyFrom(walls[latest]);
            state.log.cutTo(logLines[latest]);
            latest = (latest + MOST - 1) % MOST;
            count--;
            return true;
        }

        void forget() {
            count = 0;
        }
    }

    /** One RUN in thought, on a row, a ring or a tree; the same rows of numbers serve every RUN. */
    private static final class Run {
        private final int[] minds = new int[KEEPERS];
        private final int[] above = new int[KEEPERS];
        private final int[] greatestBelow = new int[KEEPERS];
        private int keepers = 0;
        private boolean isRing = false;
        private boolean isTree = false;
        private int deaf = NONE;
        private int most = 0;
        private int breaths = 0;
        private int lit = 0;
        private int changed = 0;

        void start(int n, int beginner, boolean onRing) {
            keepers = n;
            isRing = onRing;
            isTree = false;
            deaf = NONE;
            most = 3 * n + 20;
            breaths = 0;
            lit = 0;
            changed = 0;
            Arrays.fill(minds, 0);
            minds[beginner] = BEGIN;
        }

        void startTree(Rows tree) {
            int greatest = 0;
            Arrays.fill(above, NONE);
            for (int i = 0; i < tree.count; i++) {
                int keeper = tree.cell(i, 0);
                above[keeper] = tree.cell(i, 1);
                greatest = Math.max(greatest, keeper);
            }
            start(greatest + 1, 0, false);
            isTree = true;
        }

        boolean goesOn() {
            return breaths < most && lit == 0;
        }

        boolean isGood() {
            return lit == keepers;
        }

        /** A breath in which nothing changes is the last that is worth while: all that follow are like it. */
        void finish(int[] said) {
            boolean stirs = true;
            for (int t = 0; t < most && lit == 0 && stirs; t++) {
                breathe(said);
                stirs = changed > 0;
            }
        }

        void breathe(int[] said) {
            if (isTree) {
                breatheTree(said);
            } else {
                breatheRow(said);
            }
            breaths++;
        }

        private void breatheRow(int[] said) {
            int left = isRing ? minds[keepers - 1] : NOBODY;
            int behindLast = isRing ? minds[0] : NOBODY;
            int litNow = 0;
            int changedNow = 0;
            for (int i = 0; i < keepers; i++) {
                int own = minds[i];
                int right = i + 1 < keepers ? minds[i + 1] : behindLast;
                int mind = i == deaf ? own : said[(own * SEEN + left) * SEEN + right];
                minds[i] = mind;
                litNow += mind == LIT ? 1 : 0;
                changedNow += mind != own ? 1 : 0;
                // The next one sees what this one had in mind ahead of the breath.
                left = own;
            }
            lit = litNow;
            changed = changedNow;
        }

        private void breatheTree(int[] said) {
            Arrays.fill(greatestBelow, NONE);
            for (int i = 1; i < keepers; i++) {
                if (above[i] != NONE) {
                    greatestBelow[above[i]] = Math.max(greatestBelow[above[i]], minds[i]);
                }
            }
            lit = 0;
            changed = 0;
            // The one above has a lesser number: going downwards, his mind is still that ahead of the breath.
            for (int i = keepers - 1; i >= 0; i--) {
                int own = minds[i];
                int left = above[i] == NONE ? NOBODY : minds[above[i]];
                int right = greatestBelow[i] == NONE ? NOBODY : greatestBelow[i];
                minds[i] = said[caseOf(own, left, right)];
                lit += minds[i] == LIT ? 1 : 0;
                changed += minds[i] != own ? 1 : 0;
            }
        }

        /** What 0 behind how many breaths the fire came, 1 how many are lit, 2 the least keeper not lit. */
        int outcome(int what) {
            switch (what) {
                case 0:
                    return lit == 0 ? NONE : breaths;
                case 1:
                    return lit;
                case 2:
                    return leastUnlit();
                default:
                    return NONE;
            }
        }

        private int leastUnlit() {
            for (int i = 0; i < keepers; i++) {
                if (minds[i] != LIT) {
                    return i;
                }
            }
            return NONE;
        }

        int whoHas(int mind) {
            int set = 0;
            for (int i = 0; i < keepers; i++) {
                if (minds[i] == mind) {
                    set |= 1 << i;
                }
            }
            return set;
        }

        int mindSet() {
            int set = 0;
            for (int i = 0; i < keepers; i++) {
                set |= 1 << minds[i];
            }
            return set;
        }

        /** Puts 1 for each case that the next breath on a row asks. */
        void noteCases(int[] isAsked) {
            int left = NOBODY;
            for (int i = 0; i < keepers; i++) {
                int right = i + 1 < keepers ? minds[i + 1] : NOBODY;
                isAsked[caseOf(minds[i], left, right)] = 1;
                left = minds[i];
            }
        }
    }

    /** RUNS to a length, with THE BOOK and with books that are only tried. */
    private static final class Trials {
        private final Run run = new Run();
        private final Run otherRun = new Run();
        private final Book trial = new Book();
        private final int[] isAsked = new int[CASES];
        private int mindsSeen = 0;
        private int found = 0;
        private int least = NONE;

        /** The first length whose RUN is not GOOD, which then stands in run; NONE if all are. */
        int firstBad(int[] said, int to) {
            for (int n = 1; n <= to; n++) {
                run.start(n, 0, false);
                run.finish(said);
                if (!run.isGood()) {
                    return n;
                }
            }
            return NONE;
        }

        void askAll() {
            Arrays.fill(isAsked, 1);
        }

        void noteRuns(int[] said, int to) {
            Arrays.fill(isAsked, 0);
            mindsSeen = 0;
            for (int n = 1; n <= to; n++) {
                noteRun(said, n);
            }
        }

        private void noteRun(int[] said, int n) {
            run.start(n, 0, false);
            mindsSeen |= run.mindSet();
            boolean stirs = true;
            for (int t = 0; t < run.most && run.lit == 0 && stirs; t++) {
                run.noteCases(isAsked);
                run.breathe(said);
                mindsSeen |= run.mindSet();
                stirs = run.changed > 0;
            }
        }

        private boolean decides(int rule, Book book) {
            for (int asked = 0; asked < ASKING_CASES; asked++) {
                if (isAsked[asked] != 0 && book.decider[asked] == rule) {
                    return true;
                }
            }
            return false;
        }

        int deciders(Book book) {
            int count = 0;
            for (int rule = 0; rule < RULES; rule++) {
                if (book.has(rule) && decides(rule, book)) {
                    count++;
                }
            }
            return count;
        }

        int leastIdle(Book book) {
            for (int rule = 0; rule < RULES; rule++) {
                if (book.has(rule) && !decides(rule, book)) {
                    return rule;
                }
            }
            return NONE;
        }

        int firstBadWithout(Book book, int rule, int to) {
            trial.copyFrom(book);
            trial.pages[rule / PAGE_RULES].wearOut(rule % PAGE_RULES);
            trial.settle();
            return firstBad(trial.said, to);
        }

        int mendingMinds(Book book, int rule, int to) {
            trial.copyFrom(book);
            int set = 0;
            for (int mind = 0; mind <= SAME; mind++) {
                trial.pages[rule / PAGE_RULES].mind[rule % PAGE_RULES] = mind;
                trial.settle();
                if (firstBad(trial.said, to) == NONE) {
                    set |= 1 << mind;
                }
            }
            return set;
        }

        /** Answers stand in found and least. */
        void tryOneRuleMore(Book book, int to) {
            Arrays.fill(isAsked, 0);
            int bad = firstBad(book.said, to);
            for (int n = 1; n <= (bad == NONE ? to : bad); n++) {
                noteRun(book.said, n);
            }
            System.arraycopy(book.said, 0, trial.said, 0, CASES);
            found = 0;
            least = NONE;
            for (int asked = 0; asked < ASKING_CASES; asked++) {
                // A rule for a case that no RUN asks, up to the first bad one, leaves all as it is.
                if (isAsked[asked] != 0 || bad == NONE) {
                    tryCase(asked, to);
                }
            }
        }

        private void tryCase(int asked, int to) {
            int own = trial.said[asked];
            for (int mind = 0; mind < MINDS; mind++) {
                trial.said[asked] = mind;
                if (mind != own && (isAsked[asked] == 0 || firstBad(trial.said, to) == NONE)) {
                    found++;
                    if (least == NONE) {
                        least = 1000 * ownOf(asked) + 100 * leftOf(asked) + 10 * rightOf(asked) + mind;
                    }
                }
            }
            trial.said[asked] = own;
        }

        /** The least keeper at the first breath where the two books part (run tells which); NONE if never. */
        int firstUnlike(int[] said, int[] otherSaid, int n) {
            run.start(n, 0, false);
            otherRun.start(n, 0, false);
            for (int t = 0; t < run.most && run.lit == 0 && otherRun.lit == 0; t++) {
                run.breathe(said);
                otherRun.breathe(otherSaid);
                for (int keeper = 0; keeper < n; keeper++) {
                    if (run.minds[keeper] != otherRun.minds[keeper]) {
                        return keeper;
                    }
                }
            }
            return NONE;
        }

        int fewestPages(Book book, int to) {
            int best = NONE;
            for (int set = 0; set < BOOKS; set++) {
                boolean fewer = best == NONE || Integer.bitCount(set) < Integer.bitCount(best);
                if (fewer && worksWithPages(book, set, to)) {
                    best = set;
                }
            }
            return best;
        }

        private boolean worksWithPages(Book book, int set, int to) {
            for (int p = 0; p < PAGES; p++) {
                if ((set >> p & 1) != 0) {
                    trial.pages[p].copyFrom(book.pages[p]);
                } else {
                    trial.pages[p].clear();
                }
            }
            trial.settle();
            return firstBad(trial.said, to) == NONE;
        }

        /** Answers stand in found and least. */
        void tryMixedBooks(Book book, Book otherBook, int to) {
            found = 0;
            least = NONE;
            for (int set = 0; set < BOOKS; set++) {
                for (int p = 0; p < PAGES; p++) {
                    trial.pages[p].copyFrom((set >> p & 1) != 0 ? otherBook.pages[p] : book.pages[p]);
                }
                trial.settle();
                if (firstBad(trial.said, to) == NONE) {
                    least = found == 0 ? set : least;
                    found++;
                }
            }
        }
    }

    /** Whether a wall comes round: its MINDS of each breath, found again by what they hash to. */
    private static final class Rounds {
        private static final int MOST = 2000;
        private static final int BUCKETS = 1024;
        private static final int HALF = 16;

        private final Wall wall = new Wall();
        /** Place t + 1 has the MINDS behind t breaths, and so place t their WAS; the first is WAS itself. */
        private final long[] low = new long[MOST + 2];
        private final long[] high = new long[MOST + 2];
        private final int[] latestIn = new int[BUCKETS];
        private final int[] earlierThan = new int[MOST + 1];
        private int returned = NONE;
        private int length = NONE;

        /** Answers stand in returned and length. */
        void follow(Wall from, Book book) {
            returned = NONE;
            length = NONE;
            Arrays.fill(latestIn, NONE);
            wall.copyFrom(from);
            write(0, wall.was);
            write(1, wall.minds);
            for (int t = 0; t <= MOST; t++) {
                int same = findSame(t);
                if (same != NONE) {
                    returned = t;
                    length = t - same;
                    return;
                }
                if (t < MOST) {
                    wall.goOn(book);
                    write(t + 2, wall.minds);
                }
            }
        }

        private void write(int place, int[] minds) {
            low[place] = packed(minds, 0, Math.min(wall.keepers, HALF));
            high[place] = packed(minds, HALF, wall.keepers);
        }

        private static long packed(int[] minds, int from, int to) {
            long all = 0;
            for (int i = from; i < to; i++) {
                all = all << 4 | minds[i];
            }
            return all;
        }

        /** The earlier breath behind which all was as behind t breaths, or NONE: then t is put to the others. */
        private int findSame(int t) {
            int bucket = bucketOf(t);
            int earlier = latestIn[bucket];
            for (int i = 0; i <= MOST && earlier != NONE; i++) {
                if (isSame(t, earlier)) {
                    return earlier;
                }
                earlier = earlierThan[earlier];
            }
            earlierThan[t] = latestIn[bucket];
            latestIn[bucket] = t;
            return NONE;
        }

        private boolean isSame(int t, int s) {
            return low[t] == low[s] && high[t] == high[s] && low[t + 1] == low[s + 1] && high[t + 1] == high[s + 1];
        }

        private int bucketOf(int t) {
            long mix = ((low[t] * 31 + high[t]) * 31 + low[t + 1]) * 31 + high[t + 1];
            mix ^= mix >>> 32;
            mix ^= mix >>> 16;
            return (int) (mix ^ mix >>> 8) & BUCKETS - 1;
        }
    }

    /** In how many ways a row can come of another by one breath, counted keeper by keeper. */
    private static final class Forebears {
        private static final long MODULUS = 1000000007L;

        /** Place 8 l + m: the ways in which the one at hand had MIND m, the one left of him l (or NOBODY). */
        private long[] ways = new long[SEEN * MINDS];
        private long[] waysNext = new long[SEEN * MINDS];

        int count(int[] minds, int keepers, int[] said) {
            Arrays.fill(ways, 0);
            for (int mind = 0; mind < MINDS; mind++) {
                ways[NOBODY * MINDS + mind] = 1;
            }
            for (int i = 0; i < keepers - 1; i++) {
                goRight(minds[i], said);
            }
            long all = 0;
            for (int place = 0; place < SEEN * MINDS; place++) {
                if (said[caseOf(place % MINDS, place / MINDS, NOBODY)] == minds[keepers - 1]) {
                    all += ways[place];
                }
            }
            return (int) (all % MODULUS);
        }

        private void goRight(int becomes, int[] said) {
            Arrays.fill(waysNext, 0);
            for (int place = 0; place < SEEN * MINDS; place++) {
                int own = place % MINDS;
                for (int right = 0; right < MINDS && ways[place] != 0; right++) {
                    if (said[caseOf(own, place / MINDS, right)] == becomes) {
                        int to = own * MINDS + right;
                        waysNext[to] = (waysNext[to] + ways[place]) % MODULUS;
                    }
                }
            }
            long[] done = ways;
            ways = waysNext;
            waysNext = done;
        }
    }
}
