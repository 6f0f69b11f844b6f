import java.util.List;

/** Promises 12 to 15, 19 to 22, 25, 26 and 37 to 39, and what the terms say of RUNS: sentence by sentence. */
final class EdgesOfRuns {
    private static final int TERMS = Edge.TERMS;
    private static final int NONE = Edge.NONE;
    private static final int FAR = NONE - 99;
    /** What begins goes to the right, and lights the last one alone. */
    private static final String WAVE = "0 1 any>1;1 any end>7;1 any any>2;";
    /** All are 0, then 2, then 0 again. */
    private static final String SWING = "0,1 any any>2;2 any any>0;";

    private final Edge edge;

    EdgesOfRuns(Edge edge) {
        this.edge = edge;
    }

    void all() {
        nothingStays();
        aRun();
        lastBreathOfARun();
        fires();
        works();
        soon();
        used();
        two();
        twoWhoBegin();
        deafened();
        deafenedOnes();
        ring();
        trees();
        treesAsTold();
        picture();
        mark();
        stir();
        crowd();
        begun();
    }

    /** The calls that have a length and a keeper refuse what can't be. */
    private interface Call {
        int of(int n, int b, int what);
    }

    private void refusesRuns(String name, Call call, int mostWhat, int due) {
        for (int what = 0; what <= mostWhat; what++) {
            refusesLengthAndKeeper(name, call, what, due);
        }
        for (int what : Edge.beyond(0, mostWhat)) {
            edge.due(name + "(3, 1, " + what + ")", call.of(3, 1, what), due);
        }
    }

    private void refusesLengthAndKeeper(String name, Call call, int what, int due) {
        for (int n : Edge.beyond(1, 32)) {
            edge.due(name + "(" + n + ", 0, " + what + ")", call.of(n, 0, what), due);
        }
        for (int n : new int[] {1, 5, 32}) {
            for (int b : Edge.beyond(0, n - 1)) {
                edge.due(name + "(" + n + ", " + b + ", " + what + ")", call.of(n, b, what), due);
            }
        }
    }

    /** The calls that have a length to which runs go refuse what can't be. */
    private void refusesLengths(String name, Call call, int mostWhat) {
        for (int what = 0; what <= mostWhat; what++) {
            for (int to : Edge.beyond(1, 24)) {
                edge.due(name + "(" + to + ", " + what + ")", call.of(to, 0, what), NONE);
            }
        }
        for (int what : Edge.beyond(0, mostWhat)) {
            edge.due(name + "(24, " + what + ")", call.of(24, 0, what), NONE);
        }
    }

    // ---- runs

    private void nothingStays() {
        edge.words(TERMS, "IN THOUGHT (nothing of it stays).");
        BeaconWall x = Edge.with(Edge.COUNT);
        x.wall(3, true);
        x.act(0, 0, 1);
        List<Integer> ahead = Edge.everything(x);
        x.fires(5, 0, 0);
        x.works(24, 0);
        x.used(24, 0);
        x.worn(0, 24);
        x.mends(0, 24);
        x.more(2, 0);
        x.two(24, 3);
        x.deafened(4, 2, 0);
        x.ring(3, 0, 0);
        x.trees(0);
        x.alike(24, 0);
        x.before();
        x.round(0);
        x.heard(0, 1, 0);
        x.enough(24);
        x.mixed(24, 0);
        x.begun(4, 0);
        edge.same("all as it was", Edge.everything(x), ahead);
        edge.due("what THE BOOK says", x.says(0, 0, 0, 0), 2);
        edge.due("what works still", x.works(24, 0), NONE);
    }

    private void aRun() {
        edge.words(TERMS, "A RUN of n (1 .. 32) in a row, none deaf, none late, all open: one begins (MIND 1), the others 0; "
            + "breath by breath till a fire is lit, 3 n + 20 at most.");
        BeaconWall x = Edge.with(WAVE);
        x.wall(32, true);
        for (int i = 0; i < 32; i++) {
            x.act(1, i, 1);
            x.act(3, i, 3);
        }
        edge.due("a row of 32, all open, none deaf", x.fires(32, 0, 0), 32);
        edge.due("a row of one", x.fires(1, 0, 0), 1);
        edge.due("one begins", x.picture(32, 31, 0, 31), 1);
        edge.due("the others 0", x.picture(32, 31, 0, 30), 0);
        edge.words(TERMS, "It is GOOD, if then all are.");
        edge.due("one of one", x.works(1, 0), NONE);
        edge.due("one of two", x.works(2, 0), 2);
        edge.due("all of 24", Edge.with(Edge.COUNT).works(24, 0), NONE);
        edge.due("all of 32", Edge.with(Edge.COUNT).begun(32, 0), 32);
    }

    private void lastBreathOfARun() {
        edge.words(TERMS, "breath by breath till a fire is lit, 3 n + 20 at most.");
        // Two keepers: 26 breaths. Keeper 1 is at 4 behind 24, and keeper 0 at 1, 2, 3 behind 24, 25, 26.
        edge.due("a fire at 25", Edge.with(Edge.CLOCK + "4 1 any>7;").fires(2, 0, 0), 25);
        edge.due("a fire at 26", Edge.with(Edge.CLOCK + "4 2 any>7;").fires(2, 0, 0), 26);
        edge.due("a fire at 27", Edge.with(Edge.CLOCK + "4 3 any>7;").fires(2, 0, 0), NONE);
        // Three keepers: 29 breaths.
        edge.due("a fire at 29 of three", Edge.with(Edge.CLOCK + "4 5 any>7;").fires(3, 0, 0), 29);
        edge.due("a fire at 30 of three", Edge.with(Edge.CLOCK + "4 6 any>7;").fires(3, 0, 0), NONE);
        BeaconWall x = Edge.with(SWING);
        edge.due("none lit: how many breaths of 32", x.stir(32, 0, 0), 0);
        edge.due("116 of them", new BeaconWall().stir(32, 0, 0), 116);
        edge.due("23 of one", new BeaconWall().stir(1, 0, 0), 23);
    }

    private void fires() {
        edge.words(12, "FIRES what 0 behind how many, 1 how many, 2 the KEEPER.");
        BeaconWall x = Edge.with("1 any any>3;3 any any>7;0 any 3>7;0 3 any>6;");
        int[][] due = {{2, 2, 2}, {2, 2, 0}};
        for (int what = 0; what <= 2; what++) {
            edge.due("fires(4, 1, " + what + ")", x.fires(4, 1, what), due[0][what]);
            edge.due("fires(3, 2, " + what + ")", x.fires(3, 2, what), due[1][what]);
        }
        edge.words(12, "NONE if one can't be, or another what.");
        refusesRuns("fires", x::fires, 2, NONE);
        edge.words(TERMS, "FIRES of n, b (0 .. n - 1 begins): behind how many breaths (NONE: no fire); how many are lit then; "
            + "the least KEEPER not lit (NONE).");
        BeaconWall empty = new BeaconWall();
        for (int n = 1; n <= 32; n += 31) {
            for (int b = 0; b < n; b += 31) {
                edge.due("no fire", empty.fires(n, b, 0), NONE);
                edge.due("none lit", empty.fires(n, b, 1), 0);
                edge.due("the least", empty.fires(n, b, 2), 0);
            }
        }
        x = Edge.with(Edge.ALL);
        for (int b = 0; b < 32; b += 31) {
            edge.due("behind one", x.fires(32, b, 0), 1);
            edge.due("all are lit", x.fires(32, b, 1), 32);
            edge.due("none not lit", x.fires(32, b, 2), NONE);
        }
        edge.due("the last one alone is not", Edge.with("0 any end>0;" + Edge.ALL).fires(32, 0, 2), 31);
    }

    private void works() {
        edge.words(13, "WORKS what 0 the first n, 1 behind how many, 2 the KEEPER.");
        BeaconWall x = Edge.with("0 0 0>0;" + Edge.COUNT);
        int[] due = {4, 3, 2};
        for (int what = 0; what <= 2; what++) {
            edge.due("works(24, " + what + ")", x.works(24, what), due[what]);
            edge.due("works(4, " + what + ")", x.works(4, what), due[what]);
            edge.due("works(3, " + what + ")", x.works(3, what), NONE);
        }
        edge.words(13, "NONE if N can't be, or another what.");
        BeaconWall empty = new BeaconWall();
        refusesLengths("works", (to, b, what) -> empty.works(to, what), 2);
        edge.words(TERMS, "WORKS to N (1 .. 24; KEEPER 0 begins): the first n of 1 .. N the RUN of which is not GOOD (NONE); "
            + "behind how many breaths there (NONE); the KEEPER.");
        edge.due("to 1", empty.works(1, 0), 1);
        edge.due("to 24", empty.works(24, 0), 1);
        edge.due("no fire there", empty.works(24, 1), NONE);
        edge.due("KEEPER 0", empty.works(24, 2), 0);
        x = Edge.with(Edge.COUNT);
        for (int what = 0; what <= 2; what++) {
            edge.due("all to 24", x.works(24, what), NONE);
        }
        // Keeper 0 begins: by this book a run is GOOD only so.
        edge.due("KEEPER 0 begins", Edge.with("1 end any>2;0 any any>2;2 any any>7;").works(24, 0), NONE);
        x = Edge.with(Edge.SEVEN);
        edge.due("to 7", x.works(7, 0), NONE);
        edge.due("to 8", x.works(8, 0), 8);
        edge.due("behind four", x.works(8, 1), 4);
        edge.due("KEEPER 4", x.works(8, 2), 4);
    }

    private void soon() {
        edge.words(14, "SOON what 0 the least there can be, 1 by how much.");
        BeaconWall x = Edge.with(Edge.COUNT);
        edge.due("soon(5, 1, 0)", x.soon(5, 1, 0), 7);
        edge.due("soon(5, 1, 1)", x.soon(5, 1, 1), 3 - 7);
        edge.words(14, "NONE - 99 if one can't be, or another what.");
        refusesRuns("soon", x::soon, 1, FAR);
        edge.words(TERMS, "SOON of n, b: the least there can be, 2 n - 2 less the lesser of b and n - 1 - b; by how much FIRES misses it "
            + "(below 0 if it is ahead of it; no fire: NONE - 99).");
        edge.due("of one", x.soon(1, 0, 0), 0);
        edge.due("of one: three too late", x.soon(1, 0, 1), 3);
        edge.due("of two", x.soon(2, 1, 0), 2);
        edge.due("of two: one too late", x.soon(2, 1, 1), 1);
        edge.due("of 32 the first", x.soon(32, 0, 0), 62);
        edge.due("of 32 the last", x.soon(32, 31, 0), 62);
        edge.due("of 32 the 16th", x.soon(32, 15, 0), 47);
        edge.due("of 32 the 17th", x.soon(32, 16, 0), 47);
        edge.due("of 31 the one between", x.soon(31, 15, 0), 45);
        edge.due("ahead of it", x.soon(32, 0, 1), 3 - 62);
        edge.due("just then", Edge.with(WAVE).soon(2, 0, 1), 0);
        BeaconWall empty = new BeaconWall();
        edge.due("no fire: the least there can be", empty.soon(32, 0, 0), 62);
        edge.due("no fire", empty.soon(32, 0, 1), FAR);
        edge.due("no fire", empty.soon(1, 0, 1), FAR);
    }

    private void used() {
        edge.words(15, "USED what 0 how many, 1 the least that does not, 2 MINDS.");
        BeaconWall x = Edge.with("1 end end>7;0 1 any>3;1 any any>4;5 any any>6;4 any any>7;");
        int[] toOne = {1, 1, 2 + 128};
        int[] toTwo = {4, 3, 1 + 2 + 8 + 16 + 128};
        for (int what = 0; what <= 2; what++) {
            edge.due("used(1, " + what + ")", x.used(1, what), toOne[what]);
            edge.due("used(2, " + what + ")", x.used(2, what), toTwo[what]);
        }
        edge.words(15, "NONE if N can't be, or another what.");
        refusesLengths("used", (to, b, what) -> x.used(to, what), 2);
        edge.words(TERMS, "USED to N: how many RULES decide in a RUN to N; the least RULE that there is and that does not (NONE); "
            + "MINDS that stand in one, at its beginning and behind its last breath, too (a set of 8).");
        BeaconWall empty = new BeaconWall();
        edge.due("no RULES", empty.used(24, 0), 0);
        edge.due("no RULES", empty.used(24, 1), NONE);
        edge.due("MINDS of one", empty.used(1, 2), 2);
        edge.due("MINDS of two", empty.used(2, 2), 3);
        BeaconWall one = Edge.with(Edge.ALL);
        edge.due("all decide", one.used(24, 1), NONE);
        edge.due("at the beginning 0, 1, behind the last 7", one.used(24, 2), 1 + 2 + 128);
        BeaconWall late = new BeaconWall();
        Edge.tell(late, 3, Edge.ALL.repeat(2));
        edge.due("a later page: the least that there is", late.used(24, 1), 73);
        edge.due("the last breath of a run", Edge.with(Edge.CLOCK + "4 2 any>5;").used(2, 0), 11);
        edge.due("MINDS behind it", Edge.with(Edge.CLOCK + "4 2 any>7;").used(2, 2), 255);
        edge.due("a breath later", Edge.with(Edge.CLOCK + "4 3 any>5;").used(2, 0), 10);
        edge.due("MINDS a breath later", Edge.with(Edge.CLOCK + "4 3 any>7;").used(2, 2), 127);
        edge.due("MINDS of a shorter one, too", Edge.with("1 end end>5;").used(24, 2), 1 + 2 + 32);
        late = new BeaconWall();
        Edge.tell(late, 3, "6 6 6>0;".repeat(23) + Edge.ALL);
        edge.due("the last RULE that can be decides", late.used(24, 0), 1);
        edge.due("the first that does not", late.used(24, 1), 72);
        edge.due("the first length that asks it", Edge.with("0 0 0>0;" + Edge.COUNT).used(3, 1), 0);
        edge.due("the first length that asks it", Edge.with("0 0 0>0;" + Edge.COUNT).used(4, 1), NONE);
        edge.due("set of 8", Edge.with("1 end any>2;2 any any>3;3 any any>4;4 any any>5;5 any any>6;6 any any>7;").used(2, 2), 255);
    }

    private void two() {
        edge.words(19, "TWO; NONE, too, if one can't be.");
        BeaconWall empty = new BeaconWall();
        edge.due("two(2, 0)", empty.two(2, 0), 2);
        edge.due("two(24, 40)", empty.two(24, 40), 2);
        for (int to : Edge.beyond(2, 24)) {
            edge.due("two(" + to + ", 0)", empty.two(to, 0), NONE);
        }
        for (int d : Edge.beyond(0, 40)) {
            edge.due("two(24, " + d + ")", empty.two(24, d), NONE);
        }
    }

    private void twoWhoBegin() {
        edge.words(TERMS, "TWO who begin, N (2 .. 24), d (0 .. 40): KEEPER 0 at first, the last one d breaths later (MIND 1 ahead of that "
            + "breath, whatever he has, if no fire is lit): the first n of 2 .. N not GOOD (NONE).");
        BeaconWall x = Edge.with(Edge.COUNT);
        edge.due("both at first", x.two(24, 0), NONE);
        edge.due("whatever he has: 2", x.two(24, 1), 2);
        edge.due("whatever he has: 3", x.two(24, 2), 2);
        edge.due("all are lit", x.two(24, 3), NONE);
        edge.due("all are lit long ago", x.two(24, 40), NONE);
        // Only two who are both at 1 light their fires.
        x = Edge.with("1 end 1>7;1 1 end>7;");
        edge.due("of two", x.two(2, 0), NONE);
        edge.due("of three", x.two(3, 0), 3);
        edge.due("of 24", x.two(24, 0), 3);
        edge.due("ahead of the 26th breath of two", x.two(2, 25), NONE);
        edge.due("behind it", x.two(2, 26), 2);
        edge.due("behind it", x.two(2, 40), 2);
        // The last one, told so, becomes 3: who sees that lights his fire when he does.
        x = Edge.with("1 any end>3;0 any 3>7;3 any any>7;1 end 3>7;");
        edge.due("two: the first sees it", x.two(2, 5), NONE);
        edge.due("three: the first does not", x.two(3, 5), 3);
    }

    private void deafened() {
        edge.words(20, "DEAFENED what 0 the most, 1 the breath.");
        BeaconWall x = Edge.with(Edge.COUNT);
        edge.due("deafened(5, 4, 0)", x.deafened(5, 4, 0), 4);
        edge.due("deafened(5, 4, 1)", x.deafened(5, 4, 1), 3);
        edge.words(20, "NONE if one can't be, or another what.");
        refusesRuns("deafened", x::deafened, 1, NONE);
    }

    private void deafenedOnes() {
        edge.words(TERMS, "DEAFENED of n, k (0 .. n - 1; begins 0): KEEPER k is DEAF (k 0: with MIND 1) and the others go on, "
            + "3 n + 20 breaths: the most fires that come to be lit in one breath; the first such breath (counted from 1; NONE: none).");
        BeaconWall x = Edge.with(Edge.ALL);
        edge.due("one alone", x.deafened(1, 0, 0), 0);
        edge.due("one alone: no breath", x.deafened(1, 0, 1), NONE);
        for (int k = 0; k < 32; k += 31) {
            edge.due("of 32 but " + k, x.deafened(32, k, 0), 31);
            edge.due("in the first breath", x.deafened(32, k, 1), 1);
        }
        // Who sees a 1 lights his fire: the first keeps his 1 if he is deaf, and else goes on to 2.
        x = Edge.with("0 1 any>3;3 1 any>7;1 end any>2;");
        edge.due("k 0 has MIND 1 and keeps it", x.deafened(2, 0, 0), 1);
        edge.due("in the second breath", x.deafened(2, 0, 1), 2);
        edge.due("another k: 0 goes on", x.deafened(3, 2, 0), 0);
        // They go on behind the first fire: one, then two, then one more.
        x = Edge.with("1 any any>7;0 7 any>7;0 any any>2;2 any any>3;3 any any>7;");
        edge.due("the most", x.deafened(5, 1, 0), 3);
        edge.due("not in the first breath", x.deafened(5, 1, 1), 3);
        x = Edge.with("1 any any>7;0 7 any>7;");
        edge.due("of several the first breath", x.deafened(32, 31, 1), 1);
        edge.due("one at a time", x.deafened(32, 31, 0), 1);
        edge.due("the deaf one stands between", x.deafened(32, 1, 0), 1);
        edge.due("at 29 of three", Edge.with(Edge.CLOCK + "4 5 any>7;").deafened(3, 2, 1), 29);
        edge.due("at 30 of three", Edge.with(Edge.CLOCK + "4 6 any>7;").deafened(3, 2, 1), NONE);
        edge.due("at 30 of three", Edge.with(Edge.CLOCK + "4 6 any>7;").deafened(3, 2, 0), 0);
        x = Edge.with(Edge.COUNT);
        x.deafened(3, 1, 0);
        edge.due("in a RUN behind it none is deaf", x.fires(3, 0, 1), 3);
    }

    private void ring() {
        edge.words(21, "RING what 0 behind how many, 1 how many, 2 the KEEPER.");
        BeaconWall x = Edge.with("1 any any>3;3 any any>7;0 any 3>7;");
        int[] due = {2, 2, 1};
        for (int what = 0; what <= 2; what++) {
            edge.due("ring(3, 0, " + what + ")", x.ring(3, 0, what), due[what]);
        }
        edge.words(21, "NONE if one can't be, or another what.");
        refusesRuns("ring", x::ring, 2, NONE);
        edge.words(TERMS, "RING of n, b: FIRES on a ring.");
        edge.due("one sees himself", Edge.with("1 1 1>7;").ring(1, 0, 0), 1);
        edge.due("nobody is at an end", Edge.with("any end any>7;any any end>7;").ring(32, 0, 0), NONE);
        edge.due("none lit", new BeaconWall().ring(32, 31, 1), 0);
        edge.due("the least", new BeaconWall().ring(32, 31, 2), 0);
        x = Edge.with(Edge.ALL);
        edge.due("all of 32", x.ring(32, 31, 1), 32);
        edge.due("none not lit", x.ring(32, 31, 2), NONE);
        x = Edge.with("1 any any>7;0 any 1>7;0 1 any>7;");
        edge.due("the last sees the first", x.ring(5, 0, 1), 3);
        edge.due("the first sees the last", x.ring(5, 4, 2), 1);
        for (int breaths = 25; breaths <= 27; breaths++) {
            x = new BeaconWall();
            String[] pages = Edge.ringClock(breaths);
            for (int p = 0; p < pages.length; p++) {
                Edge.tell(x, p, pages[p]);
            }
            edge.due("a fire at " + breaths + " of a ring of two", x.ring(2, 0, 0), breaths <= 26 ? breaths : NONE);
            edge.due("both", x.ring(2, 1, 1), breaths <= 26 ? 2 : 0);
        }
    }

    // ---- trees

    private void trees() {
        edge.words(22, "TREES what 0 behind how many, 1 how many, 2 the KEEPER.");
        BeaconWall x = Edge.with("1 any any>3;0 1 any>4;3 any any>7;4 any any>6;");
        Edge.tell(x, 5, "keeper 1 below 0;keeper 2 below 0;");
        edge.due("trees(0)", x.trees(0), 2);
        edge.due("trees(1)", x.trees(1), 1);
        edge.due("trees(2)", x.trees(2), 1);
        edge.words(22, "NONE for another what.");
        for (int what : Edge.beyond(0, 2)) {
            edge.due("trees(" + what + ")", x.trees(what), NONE);
        }
        edge.words(22, "(None told: KEEPER 0 alone.)");
        x = Edge.with("1 end end>7;");
        edge.due("behind one", x.trees(0), 1);
        edge.due("one", x.trees(1), 1);
        edge.due("all", x.trees(2), NONE);
        Edge.tell(x, 5, "keeper 1 below 0;");
        edge.due("not alone", x.trees(0), NONE);
        Edge.tell(x, 5, "");
        edge.due("an empty one told", x.trees(1), 1);
    }

    private void treesAsTold() {
        edge.words(TERMS, "TREES: KEEPERS 0 .. m, m the greatest told by TREE (those not told stand alone):");
        BeaconWall x = Edge.with(Edge.ALL);
        Edge.tell(x, 5, "keeper 15 below 0;keeper 3 below 1;");
        edge.due("KEEPERS 0 .. 15", x.trees(1), 16);
        Edge.tell(x, 5, "keeper 1 below 0;");
        edge.due("KEEPERS 0 .. 1", x.trees(1), 2);
        Edge.tell(x, 5, "keeper 5 below 0;");
        Edge.tell(x, 0, "0 end end>7;");
        edge.due("1 .. 4 stand alone", x.trees(1), 4);
        edge.due("0 does not", x.trees(2), 0);
        edge.words(TERMS, "each sees left the one he is below (NOBODY), right the greatest MIND of those below him (NOBODY): "
            + "0 begins: FIRES likewise (3 m + 23 at most).");
        // 1 becomes 3, 2 becomes 5, 3 becomes 4, all below 0, who then sees 5.
        x = Edge.with("0 1 end>5;0 1 0>3;1 end any>6;6 end 5>7;6 end any>2;");
        Edge.tell(x, 5, "keeper 1 below 0;keeper 2 below 0;keeper 4 below 1;");
        edge.due("the greatest is not the last told", x.trees(0), 2);
        Edge.tell(x, 5, "keeper 2 below 0;keeper 1 below 0;keeper 4 below 2;");
        edge.due("the greatest is not the first told", x.trees(0), 2);
        edge.due("one is lit", x.trees(1), 1);
        edge.due("the least not lit", x.trees(2), 1);
        x = Edge.with("1 end 0>7;0 1 end>7;0 end end>7;");
        Edge.tell(x, 5, "keeper 1 below 0;keeper 2 below 0;keeper 4 below 0;");
        edge.due("all see as they should", x.trees(2), NONE);
        x = Edge.with(WAVE);
        Edge.tell(x, 5, "keeper 3 below 2;keeper 2 below 1;keeper 1 below 0;");
        edge.due("each below another: as a row", x.trees(0), 4);
        edge.due("each below another: as a row", x.trees(1), 1);
        edge.due("a RUN behind it is in a row again", x.fires(2, 0, 0), 2);
        edge.due("and one of 32", x.fires(32, 0, 0), 32);
        edge.due("no fire", lone("keeper 15 below 14;", "").trees(0), NONE);
        edge.due("no fire: none", lone("keeper 15 below 14;", "").trees(1), 0);
        edge.due("no fire: the least", lone("keeper 15 below 14;", "").trees(2), 0);
        edge.due("m 1: at 26", lone("keeper 1 below 0;", Edge.CLOCK + "4 2 any>7;").trees(0), 26);
        edge.due("m 1: at 27", lone("keeper 1 below 0;", Edge.CLOCK + "4 3 any>7;").trees(0), NONE);
        edge.due("m 2: at 29", lone("keeper 1 below 0;keeper 2 below 0;", Edge.CLOCK + "4 5 any>7;").trees(0), 29);
        edge.due("m 2: at 30", lone("keeper 1 below 0;keeper 2 below 0;", Edge.CLOCK + "4 6 any>7;").trees(0), NONE);
    }

    private static BeaconWall lone(String tree, String page) {
        BeaconWall x = Edge.with(page);
        Edge.tell(x, 5, tree);
        return x;
    }

    // ---- what is in a run

    private void picture() {
        edge.words(25, "PICTURE; NONE if one can't be.");
        BeaconWall x = Edge.with(WAVE);
        edge.due("picture(1, 0, 0, 0)", x.picture(1, 0, 0, 0), 1);
        edge.due("picture(32, 31, 116, 31)", x.picture(32, 31, 116, 31), 7);
        for (int t : new int[] {0, 116}) {
            refusesLengthAndKeeper("picture", (n, b, what) -> x.picture(n, b, what, 0), t, NONE);
        }
        for (int t : Edge.beyond(0, 116)) {
            edge.due("picture(32, 0, " + t + ", 0)", x.picture(32, 0, t, 0), NONE);
            edge.due("picture(1, 0, " + t + ", 0)", x.picture(1, 0, t, 0), NONE);
        }
        for (int n : new int[] {1, 5, 32}) {
            for (int k : Edge.beyond(0, n - 1)) {
                edge.due("picture(" + n + ", 0, 0, " + k + ")", x.picture(n, 0, 0, k), NONE);
            }
        }
        edge.words(TERMS, "PICTURE of n, b: the MIND of KEEPER k behind t (0 .. 116) breaths of a RUN (behind its last breath, by a fire "
            + "or by 3 n + 20: as it is then).");
        edge.due("at its beginning", x.picture(4, 2, 0, 2), 1);
        edge.due("ahead of the fire", x.picture(4, 0, 3, 3), 1);
        edge.due("at the fire", x.picture(4, 0, 4, 3), 7);
        edge.due("behind the fire", x.picture(4, 0, 5, 2), 2);
        BeaconWall swing = Edge.with(SWING);
        edge.due("32, behind 115", swing.picture(32, 0, 115, 31), 2);
        edge.due("32, behind 116", swing.picture(32, 0, 116, 31), 0);
        edge.due("31, behind 113", swing.picture(31, 0, 113, 30), 2);
        edge.due("31, behind 114: as it was", swing.picture(31, 0, 114, 30), 2);
        edge.due("one, behind 22", swing.picture(1, 0, 22, 0), 0);
        edge.due("one, behind 23", swing.picture(1, 0, 23, 0), 2);
        edge.due("one, behind 24: as it was", swing.picture(1, 0, 24, 0), 2);
        edge.due("one, behind 116: as it was", swing.picture(1, 0, 116, 0), 2);
    }

    private void mark() {
        edge.words(26, "MARK; NONE, too, if one can't be.");
        BeaconWall x = Edge.with(WAVE);
        edge.due("mark(1, 0, 1, 0)", x.mark(1, 0, 1, 0), 0);
        edge.due("mark(32, 0, 7, 31)", x.mark(32, 0, 7, 31), 32);
        for (int mind = 0; mind <= 1; mind++) {
            refusesLengthAndKeeper("mark", (n, b, what) -> x.mark(n, b, what, 0), mind, NONE);
        }
        for (int mind : Edge.beyond(0, 7)) {
            edge.due("mark(4, 0, " + mind + ", 0)", x.mark(4, 0, mind, 0), NONE);
        }
        for (int k : Edge.beyond(0, 3)) {
            edge.due("mark(4, 0, 0, " + k + ")", x.mark(4, 0, 0, k), NONE);
        }
        edge.words(TERMS, "MARK of n, b, MIND m, KEEPER k: behind how many breaths of it he has it first (0: at its beginning; NONE).");
        edge.due("at its beginning 1", x.mark(4, 3, 1, 3), 0);
        edge.due("at its beginning 0", x.mark(4, 3, 0, 2), 0);
        edge.due("behind the last breath", x.mark(4, 0, 7, 3), 4);
        edge.due("never", x.mark(4, 0, 7, 0), NONE);
        BeaconWall swing = Edge.with(SWING);
        edge.due("first, though he has it again", swing.mark(4, 0, 2, 3), 1);
        edge.due("first", swing.mark(4, 0, 0, 0), 2);
        edge.due("at the last of 26", Edge.with(Edge.CLOCK + "4 2 any>5;").mark(2, 0, 5, 1), 26);
        edge.due("a breath later", Edge.with(Edge.CLOCK + "4 3 any>5;").mark(2, 0, 5, 1), NONE);
    }

    private void stir() {
        edge.words(37, "STIR what 0 in how many, 1 the most, 2 the first.");
        BeaconWall x = Edge.with("1 any any>2;0 2 any>3;0 any 2>3;3 any any>7;");
        // One changes, then two, then two light their fires.
        int[] due = {0, 2, 2};
        for (int what = 0; what <= 2; what++) {
            edge.due("stir(3, 1, " + what + ")", x.stir(3, 1, what), due[what]);
        }
        edge.words(37, "NONE, too, if one can't be, or another what.");
        refusesRuns("stir", x::stir, 2, NONE);
        edge.words(TERMS, "STIR of n, b: of the breaths of a RUN: in how many nobody's MIND changes; the most MINDS that change in one; "
            + "the first such one (counted from 1; NONE: none ever changes).");
        BeaconWall empty = new BeaconWall();
        for (int n = 1; n <= 32; n += 31) {
            edge.due("none changes", empty.stir(n, n - 1, 0), 3 * n + 20);
            edge.due("none changes", empty.stir(n, n - 1, 1), 0);
            edge.due("none changes", empty.stir(n, n - 1, 2), NONE);
        }
        BeaconWall swing = Edge.with(SWING);
        edge.due("all change in each", swing.stir(32, 0, 0), 0);
        edge.due("all of 32", swing.stir(32, 0, 1), 32);
        edge.due("in the first", swing.stir(32, 0, 2), 1);
        BeaconWall wave = Edge.with("0 1 any>1;");
        edge.due("one at a time, then none", wave.stir(5, 0, 0), 35 - 4);
        edge.due("one at a time", wave.stir(5, 0, 1), 1);
        edge.due("a fire ends it", Edge.with(Edge.ALL).stir(32, 0, 0), 0);
        BeaconWall same = Edge.with("any any any>same;");
        edge.due("one that says same changes none", same.stir(3, 0, 0), 29);
        BeaconWall ends = Edge.with("0 end any>2;0 any end>2;");
        edge.due("in a row two are at an end", ends.stir(5, 2, 1), 2);
    }

    private void crowd() {
        edge.words(38, "CROWD what 0 the most, 1 behind how many breaths, 2 how many at some time.");
        BeaconWall x = Edge.with(WAVE);
        int[] due = {3, 3, 3};
        for (int what = 0; what <= 2; what++) {
            edge.due("crowd(4, 0, 2, " + what + ")", x.crowd(4, 0, 2, what), due[what]);
        }
        edge.words(38, "NONE if one can't be, or another what.");
        refusesRuns("crowd", (n, b, what) -> x.crowd(n, b, 0, what), 2, NONE);
        for (int what = 0; what <= 2; what++) {
            for (int mind : Edge.beyond(0, 7)) {
                edge.due("crowd(4, 0, " + mind + ", " + what + ")", x.crowd(4, 0, mind, what), NONE);
            }
        }
        edge.words(TERMS, "CROWD of a MIND in a RUN of n, b (at its beginning and behind its last breath, too): the most KEEPERS that "
            + "have it at once; behind how many breaths first; how many KEEPERS have it at some time.");
        edge.due("at its beginning", x.crowd(32, 5, 0, 0), 31);
        edge.due("at its beginning", x.crowd(32, 5, 0, 1), 0);
        edge.due("behind its last breath", x.crowd(4, 0, 7, 0), 1);
        edge.due("behind its last breath", x.crowd(4, 0, 7, 1), 4);
        edge.due("one at a time, all of 32", x.crowd(32, 0, 1, 2), 32);
        edge.due("one at a time: one at most", x.crowd(32, 0, 1, 0), 1);
        edge.due("one at a time: behind 0 first", x.crowd(32, 0, 1, 1), 0);
        for (int what = 0; what <= 2; what++) {
            edge.due("none ever", x.crowd(4, 0, 5, what), 0);
        }
        BeaconWall all = Edge.with(Edge.ALL);
        edge.due("all of 32", all.crowd(32, 31, 7, 0), 32);
        edge.due("behind one", all.crowd(32, 31, 7, 1), 1);
        edge.due("all of 32 at some time", all.crowd(32, 31, 7, 2), 32);
        edge.due("at the last of 26", Edge.with(Edge.CLOCK + "4 2 any>5;").crowd(2, 0, 5, 2), 2);
        edge.due("a breath later", Edge.with(Edge.CLOCK + "4 3 any>5;").crowd(2, 0, 5, 2), 1);
    }

    private void begun() {
        edge.words(39, "BEGUN of n (1 .. 32) what 0 by how many, 1 the least, 2 the shortest.");
        // Begun by the last of two all light their fires behind one, by the first behind two breaths; of one or three none does.
        BeaconWall x = Edge.with("1 0 end>7;0 end 1>7;1 end 0>2;0 1 end>2;2 any any>7;");
        int[][] due = {{0, 0, NONE}, {2, NONE, 1}, {0, 0, NONE}};
        for (int n = 1; n <= 3; n++) {
            for (int what = 0; what <= 2; what++) {
                edge.due("begun(" + n + ", " + what + ")", x.begun(n, what), due[n - 1][what]);
            }
        }
        edge.words(39, "NONE, too, if n can't be, or another what.");
        for (int what = 0; what <= 2; what++) {
            for (int n : Edge.beyond(1, 32)) {
                edge.due("begun(" + n + ", " + what + ")", x.begun(n, what), NONE);
            }
        }
        for (int what : Edge.beyond(0, 2)) {
            edge.due("begun(2, " + what + ")", x.begun(2, what), NONE);
        }
        edge.words(TERMS, "BEGUN of n: by how many b the RUN is GOOD; the least b by which it is not (NONE); the b of the shortest GOOD one "
            + "(of several the least; NONE).");
        BeaconWall all = Edge.with(Edge.ALL);
        for (int n = 1; n <= 32; n += 31) {
            edge.due("by all of " + n, all.begun(n, 0), n);
            edge.due("none by which it is not", all.begun(n, 1), NONE);
            edge.due("of several the least", all.begun(n, 2), 0);
        }
        BeaconWall last = Edge.with("1 any not end>6;" + Edge.ALL);
        edge.due("by the last alone", last.begun(32, 0), 1);
        edge.due("not by the first", last.begun(32, 1), 0);
        edge.due("the last", last.begun(32, 2), 31);
        BeaconWall first = Edge.with("1 any end>6;" + Edge.ALL);
        edge.due("by all but the last", first.begun(32, 0), 31);
        edge.due("not by the last", first.begun(32, 1), 31);
        BeaconWall empty = new BeaconWall();
        edge.due("by none", empty.begun(32, 0), 0);
        edge.due("the least", empty.begun(32, 1), 0);
        edge.due("none is GOOD", empty.begun(32, 2), NONE);
    }
}
