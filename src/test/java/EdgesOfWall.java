import java.util.List;

/** Promises 1 to 4, 9, 11, 28, 29 and 42 to 44, and what the terms say of THE WALL: sentence by sentence. */
final class EdgesOfWall {
    private static final int TERMS = Edge.TERMS;
    private static final int NONE = Edge.NONE;

    private final Edge edge;

    EdgesOfWall(Edge edge) {
        this.edge = edge;
    }

    void all() {
        newObject();
        wallStands();
        wallRefused();
        atFirst();
        gates();
        ringOfOne();
        acts();
        actRefused();
        byHand();
        breathsGoBy();
        breathsRefused();
        countsOfAWall();
        planOfABreath();
        allAtOnce();
        lateSeesWas();
        askedCounts();
        firstFire();
        of();
        ofRefused();
        log();
        logRefused();
        logLines();
        logIsFull();
        round();
        roundOfTheWall();
        heard();
        heardOfTheWall();
        undo();
        undoOfTheLast();
        undoKeepsSix();
        whatForgets();
        image();
        imageHasAll();
        look();
        lookRefused();
    }

    private static BeaconWall wallOf(int n, boolean ring) {
        BeaconWall x = new BeaconWall();
        x.wall(n, ring);
        return x;
    }

    private void newObject() {
        edge.words(1, "No wall, no book.");
        BeaconWall other = Edge.with(Edge.ALL);
        other.wall(3, true);
        other.breaths(1);
        BeaconWall x = new BeaconWall();
        for (int what = 0; what <= 15; what++) {
            edge.due("look(" + what + ")", x.look(what), what == 4 ? NONE : 0);
        }
        edge.due("of(0, 0)", x.of(0, 0), NONE);
        edge.due("log(0, 0)", x.log(0, 0), NONE);
        for (int own = 0; own <= 7; own++) {
            edge.due("says(" + own + ", 8, 0, 0)", x.says(own, 8, 0, 0), own);
            edge.due("says(" + own + ", 8, 0, 1)", x.says(own, 8, 0, 1), NONE);
        }
        edge.due("undo()", x.undo(), false);
        edge.due("image(false)", x.image(false), false);
        edge.due("the TAPE", x.end(1), false);
        edge.due("the MARKS", x.goes(0, 0, 0, 1), 1);
        edge.words(TERMS, "The constants: `NONE = -1`: None.");
        edge.due("NONE", BeaconWall.NONE, -1);
    }

    // ---- the wall is built

    private void wallStands() {
        edge.words(2, "THE WALL is n KEEPERS, a row or a ring, all as at first (BREATH 0, ASKED, FIRST, TOGETHER too; "
            + "THE LOG stays): true;");
        BeaconWall x = Edge.with("0 any any>7;");
        for (int n : new int[] {0, 1, 31, 32}) {
            for (boolean ring : new boolean[] {false, true}) {
                edge.due("wall(" + n + ")", x.wall(n, ring), true);
                edge.due("KEEPERS", x.look(0), n);
                edge.due("ROUND", x.look(1), ring ? 1 : 0);
                edge.due("the last one", x.of(n - 1, 0), n == 0 ? NONE : 0);
                edge.due("the one behind him", x.of(n, 0), NONE);
            }
        }
        for (int keeper = 0; keeper < 32; keeper += 31) {
            x.act(0, keeper, 5);
            x.act(1, keeper, 1);
            x.act(2, keeper, 1);
            x.act(3, keeper, 3);
        }
        x.breaths(2);
        edge.due("ASKED ahead of it", x.look(3), 30);
        edge.due("TOGETHER ahead of it", x.look(5), 30);
        edge.due("wall(32, false)", x.wall(32, false), true);
        for (int keeper = 0; keeper < 32; keeper++) {
            for (int what = 0; what <= 4; what++) {
                edge.due("of(" + keeper + ", " + what + ")", x.of(keeper, what), 0);
            }
        }
        int[] due = {32, 0, 0, 0, NONE, 0, 0, 9};
        for (int what = 0; what <= 7; what++) {
            edge.due("look(" + what + ")", x.look(what), due[what]);
        }
        edge.due("THE BOOK stays", x.look(8), 1);
        x.wall(1, false);
        x.wall(32, false);
        edge.due("nobody of an older wall", x.of(31, 0), 0);
    }

    private void wallRefused() {
        edge.words(2, "false, changing nothing, if n can't be.");
        BeaconWall x = Edge.with("0 any any>7;");
        x.wall(3, true);
        x.act(1, 1, 1);
        x.act(2, 2, 1);
        x.act(3, 0, 2);
        x.breaths(2);
        List<Integer> ahead = Edge.everything(x);
        for (int n : Edge.beyond(0, 32)) {
            edge.due("wall(" + n + ", false)", x.wall(n, false), false);
        }
        edge.same("all as it was", Edge.everything(x), ahead);
        edge.due("what can be undone", x.undo(), true);
    }

    private void atFirst() {
        edge.words(TERMS, "THE WALL: 0 .. 32 KEEPERS (0 at first), ROUND 0 a row, 1 a ring (0 at first).");
        BeaconWall x = new BeaconWall();
        edge.due("KEEPERS", x.look(0), 0);
        edge.due("ROUND", x.look(1), 0);
        edge.due("wall(0, true)", x.wall(0, true), true);
        edge.due("ROUND of none", x.look(1), 1);
        edge.due("wall(32, true)", x.wall(32, true), true);
        edge.due("wall(33, true)", x.wall(33, true), false);
        edge.words(TERMS, "Of a KEEPER: MIND (0 at first), WAS (his MIND a breath ago, 0 at first), DEAF, LATE 0, 1 (0 at first).");
        for (int keeper = 0; keeper < 32; keeper += 31) {
            for (int what = 0; what <= 3; what++) {
                edge.due("of(" + keeper + ", " + what + ")", x.of(keeper, what), 0);
            }
        }
        x.act(0, 31, 6);
        edge.due("WAS of one told", x.of(31, 1), 0);
        x.breaths(1);
        edge.due("WAS a breath later", x.of(31, 1), 6);
        x.act(0, 31, 2);
        edge.due("WAS is still that of a breath ago", x.of(31, 1), 6);
        x.act(1, 31, 1);
        x.act(2, 31, 1);
        edge.due("DEAF 1", x.of(31, 2), 1);
        edge.due("LATE 1", x.of(31, 3), 1);
        edge.due("DEAF 0 of another", x.of(0, 2), 0);
    }

    private void gates() {
        edge.words(TERMS, "GATE i between KEEPER i and the next one (on a ring also behind the last): 0 open, 1 the left one does not "
            + "see the right one, 2 the right one does not see the left one, 3 both (0 at first); who does not see sees NOBODY.");
        for (boolean ring : new boolean[] {false, true}) {
            BeaconWall x = wallOf(3, ring);
            for (int keeper = 0; keeper < 3; keeper++) {
                edge.due("GATE " + keeper + " at first", x.of(keeper, 4), 0);
                x.act(0, keeper, keeper + 1);
            }
            for (int gate = 0; gate < 3; gate++) {
                boolean between = ring || gate < 2;
                for (int v = 3; v >= 0; v--) {
                    x.act(3, gate, v);
                    int next = (gate + 1) % 3;
                    edge.due("GATE " + gate + " is " + v + ", ring " + ring + ": the left one sees",
                        x.of(gate, 6), between && v % 2 == 0 ? next + 1 : 8);
                    edge.due("GATE " + gate + " is " + v + ", ring " + ring + ": the right one sees",
                        x.of(next, 5), between && v < 2 ? gate + 1 : 8);
                }
            }
        }
        BeaconWall x = Edge.with("0 end end>6;0 any any>5;");
        x.wall(3, true);
        x.act(3, 0, 2);
        x.act(3, 1, 1);
        x.breaths(1);
        edge.due("who sees none asks with NOBODY", x.of(1, 0), 6);
        edge.due("the others see", x.of(0, 0) + x.of(2, 0), 10);
        x = wallOf(2, true);
        x.act(0, 1, 4);
        x.act(3, 1, 2);
        edge.due("a ring of two: left by GATE 1", x.of(0, 5), 8);
        edge.due("a ring of two: right by GATE 0", x.of(0, 6), 4);
    }

    private void ringOfOne() {
        edge.words(TERMS, "A ring of one sees himself.");
        BeaconWall x = wallOf(1, true);
        x.act(0, 0, 4);
        edge.due("left", x.of(0, 5), 4);
        edge.due("right", x.of(0, 6), 4);
        x.act(3, 0, 1);
        edge.due("left, GATE 1", x.of(0, 5), 4);
        edge.due("right, GATE 1", x.of(0, 6), 8);
        x.act(3, 0, 2);
        edge.due("left, GATE 2", x.of(0, 5), 8);
        edge.due("right, GATE 2", x.of(0, 6), 4);
        x = wallOf(1, false);
        x.act(0, 0, 4);
        edge.due("a row of one: left", x.of(0, 5), 8);
        edge.due("a row of one: right", x.of(0, 6), 8);
    }

    // ---- by hand

    private void acts() {
        edge.words(3, "What 0 to TELL KEEPER who MIND v, 1 DEAF (v 1, 0), 2 LATE (v 1, 0), 3 GATE v: true;");
        BeaconWall x = wallOf(32, false);
        int[] most = {7, 1, 1, 3};
        int[] seenBy = {0, 2, 3, 4};
        for (int what = 0; what <= 3; what++) {
            for (int who = 0; who < 32; who += 31) {
                for (int v : new int[] {most[what], 0, 1}) {
                    edge.due("act(" + what + ", " + who + ", " + v + ")", x.act(what, who, v), true);
                    edge.due("it is so", x.of(who, seenBy[what]), v);
                }
            }
        }
    }

    private void actRefused() {
        edge.words(3, "false if one can't be, or another what.");
        BeaconWall none = new BeaconWall();
        for (int what = 0; what <= 3; what++) {
            edge.due("act(" + what + ", 0, 0) without KEEPERS", none.act(what, 0, 0), false);
        }
        BeaconWall x = wallOf(3, false);
        x.act(0, 1, 5);
        List<Integer> ahead = Edge.everything(x);
        int[] most = {7, 1, 1, 3};
        for (int what = 0; what <= 3; what++) {
            for (int v : Edge.beyond(0, most[what])) {
                edge.due("act(" + what + ", 0, " + v + ")", x.act(what, 0, v), false);
            }
            for (int who : Edge.beyond(0, 2)) {
                edge.due("act(" + what + ", " + who + ", 0)", x.act(what, who, 0), false);
            }
            edge.due("act(" + what + ", 31, 0)", x.act(what, 31, 0), false);
        }
        for (int what : Edge.beyond(0, 3)) {
            edge.due("act(" + what + ", 0, 0)", x.act(what, 0, 0), false);
            edge.due("act(" + what + ", 0, 1)", x.act(what, 0, 1), false);
        }
        edge.same("all as it was", Edge.everything(x), ahead);
    }

    private void byHand() {
        edge.words(TERMS, "By hand: to TELL a MIND, to make DEAF, LATE or not, to set a GATE.");
        BeaconWall x = wallOf(2, false);
        x.act(0, 1, 7);
        edge.due("a fire by hand", x.look(6), 1);
        edge.due("FIRST is not by hand", x.look(4), NONE);
        x.act(0, 1, 0);
        edge.due("put out by hand", x.look(6), 0);
        x.act(1, 0, 1);
        x.act(1, 0, 0);
        edge.due("not DEAF", x.of(0, 2), 0);
        x.act(2, 0, 1);
        x.act(2, 0, 0);
        edge.due("not LATE", x.of(0, 3), 0);
        edge.due("the GATE behind a row's last", x.act(3, 1, 3), true);
        edge.due("it is so", x.of(1, 4), 3);
        edge.due("BREATH does not go on", x.look(2), 0);
        for (int what = 0; what <= 3; what++) {
            for (int before = 0; before < 16; before++) {
                nothingElse(what, before);
            }
        }
    }

    /** What is done to one of three, all of whom are so or so ahead of it (a bit each), changes nothing else of any. */
    private void nothingElse(int what, int before) {
        BeaconWall x = wallOf(3, false);
        int[][] due = new int[3][4];
        for (int who = 0; who < 3; who++) {
            for (int i = 0; i < 4; i++) {
                due[who][i] = before >> i & 1;
                x.act(i, who, due[who][i]);
            }
        }
        due[1][what] ^= 1;
        x.act(what, 1, due[1][what]);
        int[] seenBy = {0, 2, 3, 4};
        for (int who = 0; who < 3; who++) {
            for (int i = 0; i < 4; i++) {
                edge.due("act(" + what + ") of 1: what " + seenBy[i] + " of " + who, x.of(who, seenBy[i]), due[who][i]);
            }
        }
    }

    // ---- breaths

    private void breathsGoBy() {
        edge.words(4, "BREATHS go by (1 .. 60): how many fires are lit then.");
        BeaconWall x = Edge.with("0 7 any>7;");
        edge.due("without KEEPERS", x.breaths(1), 0);
        x.wall(32, false);
        edge.due("none lit", x.breaths(1), 0);
        x.act(0, 0, 7);
        edge.due("one breath", x.breaths(1), 2);
        edge.due("BREATH", x.look(2), 2);
        edge.due("sixty", x.breaths(60), 32);
        edge.due("BREATH", x.look(2), 62);
    }

    private void breathsRefused() {
        edge.words(4, "NONE, and nothing is done, if one can't be, or BREATH would be above 9999.");
        BeaconWall x = Edge.with("0 any any>1;1 any any>2;");
        x.wall(2, false);
        List<Integer> ahead = Edge.everything(x);
        for (int n : Edge.beyond(1, 60)) {
            edge.due("breaths(" + n + ")", x.breaths(n), NONE);
        }
        edge.same("nothing is done", Edge.everything(x), ahead);
        x = Edge.with("0 any any>1;1 any any>0;");
        x.wall(2, false);
        for (int i = 0; i < 166; i++) {
            x.breaths(60);
        }
        ahead = Edge.everything(x);
        edge.due("breaths(40) at 9960", x.breaths(40), NONE);
        edge.due("breaths(60) at 9960", x.breaths(60), NONE);
        edge.same("nothing is done", Edge.everything(x), ahead);
        edge.due("breaths(39) at 9960", x.breaths(39), 0);
        edge.due("BREATH", x.look(2), 9999);
        edge.due("breaths(1) at 9999", x.breaths(1), NONE);
        edge.due("BREATH", x.look(2), 9999);
        edge.due("a wall anew", x.wall(2, false), true);
        edge.due("breaths(1) at 0", x.breaths(1), 0);
    }

    private void countsOfAWall() {
        edge.words(TERMS, "BREATH 0 .. 9999 (0 at first), ASKED (how often a RULE decided, an int, 0 at first); FIRST: the BREATH "
            + "behind which a fire was lit first (NONE at first), TOGETHER: how many were lit then (0 at first).");
        BeaconWall x = Edge.with("1 any any>7;0 any any>same;");
        x.wall(4, false);
        edge.due("BREATH", x.look(2), 0);
        edge.due("ASKED", x.look(3), 0);
        edge.due("FIRST", x.look(4), NONE);
        edge.due("TOGETHER", x.look(5), 0);
        x.breaths(1);
        edge.due("ASKED, one that says same", x.look(3), 4);
        x.act(0, 1, 1);
        x.act(0, 2, 1);
        x.breaths(1);
        edge.due("BREATH", x.look(2), 2);
        edge.due("ASKED", x.look(3), 8);
        edge.due("FIRST", x.look(4), 1);
        edge.due("TOGETHER", x.look(5), 2);
        x.act(0, 0, 1);
        x.breaths(1);
        edge.due("ASKED, two are lit", x.look(3), 10);
        edge.due("FIRST stays", x.look(4), 1);
        edge.due("TOGETHER stays", x.look(5), 2);
    }

    private void planOfABreath() {
        edge.words(TERMS, "A BREATH: (a) line by line of PLAN for it: tell: MIND is so; deaf, wake: DEAF 1, 0; late, soon: LATE 1, 0; "
            + "gate: GATE is N (of a KEEPER that there is).");
        BeaconWall x = new BeaconWall();
        Edge.tell(x, 4, "at 1 tell 2 5;at 1 deaf 2;at 1 late 2;at 1 gate 2 3;at 1 tell 3 7;at 1 deaf 31;at 0 tell 0 3;"
            + "at 0 tell 0 4;at 2 wake 2;at 2 soon 2;at 2 gate 2 0;at 2 tell 2 0;");
        x.wall(3, true);
        x.breaths(1);
        edge.due("line by line: the last told", x.of(0, 0), 4);
        edge.due("lines for breath 0 alone", x.look(7), 2);
        edge.due("nothing of breath 1", x.of(2, 0) + x.of(2, 2) + x.of(2, 3) + x.of(2, 4), 0);
        x.breaths(1);
        int[] due = {5, 5, 1, 1, 3};
        for (int what = 0; what <= 4; what++) {
            edge.due("of(2, " + what + ") behind breath 1", x.of(2, what), due[what]);
        }
        edge.due("of those that there are not nothing", x.look(7), 6);
        x.breaths(1);
        for (int what = 0; what <= 4; what++) {
            edge.due("of(2, " + what + ") behind breath 2", x.of(2, what), 0);
        }
        x.wall(4, false);
        edge.due("PLAN again on a new wall, the fourth is lit", x.breaths(2), 1);
        Edge.tell(x, 4, "at 999 tell 0 6;");
        x.wall(1, false);
        for (int i = 0; i < 16; i++) {
            x.breaths(60);
        }
        x.breaths(39);
        edge.due("ahead of breath 999", x.of(0, 0), 0);
        x.breaths(1);
        edge.due("behind breath 999", x.of(0, 0), 6);
        edge.due("an empty wall has no KEEPER 0", emptyWallBy("at 0 tell 0 7;"), 0);
    }

    private static int emptyWallBy(String plan) {
        BeaconWall x = new BeaconWall();
        Edge.tell(x, 4, plan);
        x.breaths(1);
        return x.look(7);
    }

    private void allAtOnce() {
        edge.words(TERMS, "(b) All at once: each KEEPER not DEAF, whose fire is not lit, asks THE BOOK with his MIND and what he sees: "
            + "the MINDS of the others (ahead of this, behind (a)), or, if he is LATE, their WAS;");
        BeaconWall x = Edge.with("0 1 any>1;0 any 1>1;1 any any>2;");
        x.wall(5, false);
        x.act(0, 2, 1);
        x.breaths(1);
        int[] behindOne = {0, 1, 2, 1, 0};
        for (int i = 0; i < 5; i++) {
            edge.due("MIND of " + i, x.of(i, 0), behindOne[i]);
        }
        x = Edge.with("any any any>2;");
        x.wall(3, false);
        x.act(1, 0, 1);
        x.act(0, 1, 7);
        x.breaths(1);
        edge.due("a DEAF one", x.of(0, 0), 0);
        edge.due("a lit one", x.of(1, 0), 7);
        edge.due("another", x.of(2, 0), 2);
        x = Edge.with("0 1 any>1;");
        Edge.tell(x, 4, "at 0 tell 0 1;");
        x.wall(2, false);
        x.breaths(1);
        edge.due("what is told by PLAN is seen in that breath", x.of(1, 0), 1);
    }

    private void lateSeesWas() {
        edge.words(TERMS, "WAS of each is his MIND of ahead of this (behind (a)).");
        BeaconWall x = Edge.with("0 3 any>3;");
        Edge.tell(x, 4, "at 1 tell 0 3;at 1 deaf 0;");
        x.wall(3, false);
        x.act(2, 1, 1);
        x.breaths(1);
        edge.due("WAS ahead of the PLAN", x.of(0, 1), 0);
        x.breaths(1);
        edge.due("WAS behind it, of a DEAF one too", x.of(0, 1), 3);
        edge.due("a LATE one has not seen it", x.of(1, 0), 0);
        edge.due("he sees WAS", x.of(1, 5), 3);
        x.breaths(1);
        edge.due("now he has", x.of(1, 0), 3);
        edge.due("WAS of him", x.of(1, 1), 0);
        x.act(0, 0, 7);
        x.breaths(1);
        edge.due("WAS of a lit one", x.of(0, 1), 7);
        edge.due("the third", x.of(2, 0), 3);
    }

    private void askedCounts() {
        edge.words(TERMS, "ASKED one more for each whose answer came by a RULE.");
        BeaconWall x = Edge.with("0 any any>same;1 any any>1;2 any end>5;");
        x.wall(32, true);
        x.breaths(60);
        edge.due("32 in 60 breaths", x.look(3), 32 * 60);
        x.wall(4, false);
        x.act(0, 0, 1);
        x.act(0, 1, 3);
        x.act(0, 2, 7);
        x.act(1, 3, 1);
        x.breaths(1);
        edge.due("one by a RULE, one by none, one lit, one DEAF", x.look(3), 1);
    }

    private void firstFire() {
        edge.words(TERMS, "(c) Is FIRST NONE and is a fire lit: FIRST is this BREATH, TOGETHER how many are. BREATH is one more.");
        BeaconWall x = wallOf(3, false);
        x.breaths(1);
        edge.due("no fire", x.look(4), NONE);
        x.act(0, 1, 7);
        x.act(0, 2, 7);
        x.breaths(1);
        edge.due("FIRST", x.look(4), 1);
        edge.due("TOGETHER, by hand too", x.look(5), 2);
        edge.due("BREATH", x.look(2), 2);
        x.act(0, 1, 0);
        x.act(0, 2, 0);
        x.breaths(1);
        x.act(0, 0, 7);
        x.breaths(1);
        edge.due("FIRST stays", x.look(4), 1);
        edge.due("TOGETHER stays", x.look(5), 2);
        x = wallOf(1, false);
        x.act(0, 0, 7);
        x.act(0, 0, 0);
        x.breaths(1);
        edge.due("put out ahead of the breath", x.look(4), NONE);
        x = Edge.with(Edge.ALL);
        x.wall(32, false);
        x.breaths(1);
        edge.due("FIRST 0", x.look(4), 0);
        edge.due("KEEPER 0 is the least", x.log(0, 2), 0);
        edge.due("TOGETHER 32", x.look(5), 32);
    }

    // ---- what can be seen of it

    private void of() {
        edge.words(9, "Of a KEEPER what 0 MIND, 1 WAS, 2 DEAF, 3 LATE, 4 the GATE behind him (the last one of a row, too), "
            + "5 what he sees left, 6 right (NOBODY: 8; LATE: WAS).");
        BeaconWall x = wallOf(3, false);
        x.act(0, 0, 1);
        x.act(0, 1, 2);
        x.act(0, 2, 3);
        x.breaths(1);
        x.act(0, 0, 4);
        x.act(0, 1, 5);
        x.act(0, 2, 6);
        x.act(1, 1, 1);
        x.act(2, 1, 1);
        x.act(3, 2, 3);
        int[][] due = {{4, 1, 0, 0, 0, 8, 5}, {5, 2, 1, 1, 0, 1, 3}, {6, 3, 0, 0, 3, 5, 8}};
        for (int keeper = 0; keeper < 3; keeper++) {
            for (int what = 0; what <= 6; what++) {
                edge.due("of(" + keeper + ", " + what + ")", x.of(keeper, what), due[keeper][what]);
            }
        }
        x.act(2, 0, 1);
        edge.due("a LATE one sees NOBODY as 8, too", x.of(0, 5), 8);
        x.act(3, 0, 3);
        edge.due("a LATE one behind a GATE", x.of(0, 6), 8);
    }

    private void ofRefused() {
        edge.words(9, "NONE if there is none such, or another what.");
        BeaconWall none = new BeaconWall();
        BeaconWall x = wallOf(32, false);
        for (int what = 0; what <= 6; what++) {
            for (int keeper : Edge.beyond(0, 31)) {
                edge.due("of(" + keeper + ", " + what + ")", x.of(keeper, what), NONE);
            }
            edge.due("of(0, " + what + ") without KEEPERS", none.of(0, what), NONE);
        }
        for (int what : Edge.beyond(0, 6)) {
            edge.due("of(0, " + what + ")", x.of(0, what), NONE);
        }
        x.wall(2, true);
        edge.due("of(2, 0) of two", x.of(2, 0), NONE);
    }

    private void log() {
        edge.words(11, "Of line i of THE LOG what 0 BREATH, 1 what, 2 which, 3 how much.");
        BeaconWall x = wallOf(3, false);
        x.act(3, 2, 1);
        x.breaths(5);
        x.act(0, 1, 6);
        int[][] due = {{0, 5, 2, 1}, {5, 0, 1, 6}};
        for (int i = 0; i < 2; i++) {
            for (int what = 0; what <= 3; what++) {
                edge.due("log(" + i + ", " + what + ")", x.log(i, what), due[i][what]);
            }
        }
    }

    private void logRefused() {
        edge.words(11, "NONE if there is none such, or another what.");
        BeaconWall x = wallOf(1, false);
        edge.due("log(0, 2) of none", x.log(0, 2), NONE);
        x.act(0, 0, 1);
        x.act(0, 0, 2);
        for (int what = 0; what <= 3; what++) {
            for (int i : Edge.beyond(0, 1)) {
                edge.due("log(" + i + ", " + what + ")", x.log(i, what), NONE);
            }
        }
        for (int what : Edge.beyond(0, 3)) {
            edge.due("log(0, " + what + ")", x.log(0, what), NONE);
        }
        x.undo();
        edge.due("log(1, 0) of one undone", x.log(1, 0), NONE);
    }

    private void logLines() {
        edge.words(TERMS, "BREATH, what (0 told, 1 deaf, 2 awake, 3 late, 4 soon, 5 a gate, 6 the first fire), which (the KEEPER; "
            + "6: the least one lit), how much (0: MIND; 5: GATE; 6: TOGETHER; else 0): by hand and by PLAN (a line each, too, "
            + "if it was so already).");
        String plan = "at 0 tell 1 7;at 0 deaf 1;at 0 wake 1;at 0 late 1;at 0 soon 1;at 0 gate 1 3;at 0 tell 3 7;at 0 gate 0 0;";
        int[][] due = {{0, 0, 1, 7}, {0, 1, 1, 0}, {0, 2, 1, 0}, {0, 3, 1, 0}, {0, 4, 1, 0}, {0, 5, 1, 3}, {0, 0, 3, 7}, {0, 5, 0, 0},
            {0, 6, 1, 2}};
        BeaconWall x = wallOf(4, false);
        Edge.tell(x, 4, plan);
        x.breaths(1);
        BeaconWall y = wallOf(4, false);
        int[][] acts = {{0, 1, 7}, {1, 1, 1}, {1, 1, 0}, {2, 1, 1}, {2, 1, 0}, {3, 1, 3}, {0, 3, 7}, {3, 0, 0}};
        for (int[] act : acts) {
            y.act(act[0], act[1], act[2]);
        }
        y.breaths(1);
        edge.due("lines by PLAN", x.look(7), due.length);
        edge.due("lines by hand", y.look(7), due.length);
        for (int i = 0; i < due.length; i++) {
            for (int what = 0; what <= 3; what++) {
                edge.due("by PLAN log(" + i + ", " + what + ")", x.log(i, what), due[i][what]);
                edge.due("by hand log(" + i + ", " + what + ")", y.log(i, what), due[i][what]);
            }
        }
        y.act(1, 0, 0);
        y.act(2, 0, 0);
        y.act(0, 1, 7);
        edge.due("a line each, though it was so", y.look(7), due.length + 3);
        edge.due("how much of awake", y.log(due.length, 3), 0);
        edge.due("at BREATH 1", y.log(due.length, 0), 1);
    }

    private void logIsFull() {
        edge.words(TERMS, "THE LOG (150 lines; no more then):");
        BeaconWall x = wallOf(2, false);
        Edge.tell(x, 4, "at 0 tell 0 2;at 0 tell 0 3;at 0 tell 0 7;");
        for (int i = 0; i < 148; i++) {
            x.act(0, 1, 1);
        }
        x.breaths(1);
        edge.due("150 lines", x.look(7), 150);
        edge.due("the last is the second of PLAN", x.log(149, 3), 3);
        edge.due("none behind it", x.log(150, 0), NONE);
        edge.due("the third is done all the same", x.of(0, 0), 7);
        edge.due("and the first fire", x.look(4), 0);
        edge.due("by hand, too", x.act(0, 1, 6), true);
        edge.due("no line", x.look(7), 150);
        edge.due("it can be undone", x.undo(), true);
        edge.due("MIND of 1", x.of(1, 0), 1);
        edge.due("150 lines still", x.look(7), 150);
        x.undo();
        edge.due("the BREATH undone: 148", x.look(7), 148);
        x.wall(5, true);
        edge.due("THE LOG stays with a new wall", x.look(7), 148);
    }

    // ---- in thought, of the wall as it is

    private void round() {
        edge.words(28, "ROUND what 0 behind how many, 1 how long.");
        BeaconWall x = Edge.with("1 any any>2;2 any any>1;");
        x.wall(1, false);
        x.act(0, 0, 1);
        // 0 ahead, then 1, 2, 1, 2: the couple of 2 and 1 comes again behind three breaths.
        edge.due("round(0)", x.round(0), 3);
        edge.due("round(1)", x.round(1), 2);
        edge.words(28, "NONE, too, for another what.");
        for (int what : Edge.beyond(0, 1)) {
            edge.due("round(" + what + ")", x.round(what), NONE);
            edge.due("round(" + what + ") without KEEPERS", new BeaconWall().round(what), NONE);
        }
    }

    private void roundOfTheWall() {
        edge.words(TERMS, "ROUND of THE WALL as it is (ROUND, DEAF, LATE, GATES; no PLAN), MINDS and WAS alone:");
        BeaconWall x = Edge.with("any 1 any>1;1 any any>0;");
        Edge.tell(x, 4, "at 0 tell 0 0;at 1 deaf 0;");
        x.wall(6, true);
        x.act(0, 0, 1);
        edge.due("a ring, no PLAN", x.round(1), 6);
        x.act(2, 3, 1);
        edge.due("one LATE", x.round(1), 7);
        x.act(1, 3, 1);
        edge.due("one DEAF", x.round(1), 1);
        x.act(1, 3, 0);
        x.act(2, 3, 0);
        x.act(3, 5, 2);
        edge.due("a GATE", x.round(1), 1);
        edge.due("nothing of it stays", x.look(2) + x.look(3), 0);
        x.wall(6, false);
        x.act(0, 0, 1);
        edge.due("a row", x.round(1), 1);
        edge.words(TERMS, "behind how many breaths (up to 2000) it first is as it was at some breath; how long it is between "
            + "(NONE: not; without KEEPERS: 1 and 1).");
        x = wallOf(32, true);
        edge.due("at rest: behind one", x.round(0), 1);
        edge.due("at rest: one long", x.round(1), 1);
        x = new BeaconWall();
        edge.due("without KEEPERS", x.round(0), 1);
        edge.due("without KEEPERS", x.round(1), 1);
        for (int keeper = 0; keeper < 32; keeper++) {
            x = Edge.with("1 any any>2;2 any any>4;4 any any>6;6 any any>1;");
            x.wall(32, keeper % 2 == 0);
            x.act(0, keeper, 1);
            edge.due("one of 32, " + keeper + ", goes on", x.round(0), 5);
            edge.due("one of 32, " + keeper + ", goes on", x.round(1), 4);
        }
        longRounds();
    }

    /** Five keepers count together, 4 times 5 times 5 times 5 times 4 (or 3) breaths round; the first four come not again. */
    private void longRounds() {
        BeaconWall x = Edge.with("0 end any>1;1 end any>2;2 end any>6;6 end any>0;0 6 end>1;1 6 end>2;2 6 end>3;3 6 end>0;"
            + "0 6 any>1;1 6 any>2;2 6 any>3;3 6 any>4;4 6 any>6;6 any any>0;");
        x.wall(1, false);
        edge.due("one alone: 0, 1, 2, 6, and 0 again", x.round(1), 4);
        x.wall(5, false);
        x.breaths(3);
        edge.due("behind 2001", x.round(0), NONE);
        edge.due("behind 2001", x.round(1), NONE);
        x.breaths(1);
        edge.due("behind 2000", x.round(0), 2000);
        edge.due("2000 long", x.round(1), 2000);
        x = Edge.with("0 end any>1;1 end any>2;2 end any>6;6 end any>0;0 6 end>1;1 6 end>2;2 6 end>0;"
            + "0 6 any>1;1 6 any>2;2 6 any>3;3 6 any>4;4 6 any>6;6 any any>0;");
        x.wall(5, false);
        for (int t = 0; t <= 5; t++) {
            edge.due("1500 long, behind the first four", x.round(0), 1500 + Math.max(0, 4 - t));
            edge.due("1500 long", x.round(1), 1500);
            x.breaths(1);
        }
    }

    private void heard() {
        edge.words(29, "HEARD; KNOWN (j NONE; t not asked else).");
        BeaconWall x = wallOf(32, false);
        for (int t : new int[] {-1, 0, 200, 201, Edge.LEAST, Edge.MOST}) {
            edge.due("heard(0, 31, " + t + ")", x.heard(0, 31, t), 31);
        }
        edge.due("heard(0, NONE, 0)", x.heard(0, NONE, 0), 1);
        edge.due("heard(31, NONE, 200)", x.heard(31, NONE, 200), 32);
        edge.words(29, "NONE if one can't be.");
        for (int k : Edge.beyond(0, 31)) {
            edge.due("heard(" + k + ", 0, 0)", x.heard(k, 0, 0), NONE);
            edge.due("heard(" + k + ", NONE, 0)", x.heard(k, NONE, 0), NONE);
        }
        for (int j : new int[] {-2, 32, Edge.LEAST, Edge.MOST}) {
            edge.due("heard(0, " + j + ", 0)", x.heard(0, j, 0), NONE);
        }
        for (int t : Edge.beyond(0, 200)) {
            edge.due("heard(0, NONE, " + t + ")", x.heard(0, NONE, t), NONE);
        }
        x = new BeaconWall();
        edge.due("without KEEPERS", x.heard(0, 0, 0), NONE);
        edge.due("without KEEPERS", x.heard(0, NONE, 0), NONE);
    }

    private void heardOfTheWall() {
        edge.words(TERMS, "HEARD of KEEPERS k, j of THE WALL (GATES, DEAF, LATE as they are): behind how many breaths what is told to k "
            + "can first be known to j: who sees one who knows it knows it a breath later, if he is LATE two;");
        BeaconWall x = wallOf(5, false);
        edge.due("left to right", x.heard(0, 4, 0), 4);
        x.act(2, 2, 1);
        edge.due("one LATE between", x.heard(0, 4, 0), 5);
        edge.due("to the LATE one", x.heard(1, 2, 0), 2);
        edge.due("from the LATE one", x.heard(2, 1, 0), 1);
        x.act(3, 3, 2);
        edge.due("a GATE", x.heard(0, 4, 0), NONE);
        edge.due("the other way", x.heard(4, 0, 0), 5);
        x = wallOf(32, true);
        edge.due("half round", x.heard(0, 16, 0), 16);
        edge.due("the shorter way", x.heard(0, 17, 0), 15);
        for (int i = 0; i < 32; i++) {
            x.act(2, i, 1);
        }
        x.act(3, 31, 3);
        edge.due("all LATE, a row of a ring", x.heard(0, 31, 0), 62);
        edge.words(TERMS, "who is DEAF knows nothing of others (alike: 0; NONE: never); KNOWN behind t (0 .. 200) breaths: "
            + "how many can know it.");
        x.act(1, 16, 1);
        edge.due("DEAF", x.heard(0, 16, 0), NONE);
        edge.due("behind one DEAF", x.heard(0, 17, 0), NONE);
        edge.due("DEAF himself", x.heard(16, 16, 0), 0);
        edge.due("by one DEAF", x.heard(16, 17, 0), 2);
        edge.due("known behind 29", x.heard(0, NONE, 29), 15);
        edge.due("known behind 30", x.heard(0, NONE, 30), 16);
        edge.due("known behind 200", x.heard(0, NONE, 200), 16);
        edge.due("known behind 0", x.heard(0, NONE, 0), 1);
        edge.due("a ring of one", wallOf(1, true).heard(0, 0, 0), 0);
        edge.due("a ring of one: known", wallOf(1, true).heard(0, NONE, 200), 1);
    }

    // ---- what was

    private void undo() {
        edge.words(42, "UNDO: true; false if there is nothing.");
        BeaconWall x = wallOf(2, false);
        edge.due("nothing", x.undo(), false);
        x.act(0, 0, 1);
        edge.due("one", x.undo(), true);
        edge.due("none more", x.undo(), false);
        edge.words(TERMS, "UNDO: the latest BREATH, TELLING, DEAF, LATE, GATE not undone yet goes back (THE LOG, too):");
        x = Edge.with("1 any any>7;0 any any>0;");
        Edge.tell(x, 4, "at 0 deaf 1;at 0 gate 1 2;");
        x.wall(2, true);
        List<Integer> first = Edge.everything(x);
        x.act(0, 0, 1);
        List<Integer> told = Edge.everything(x);
        x.act(1, 0, 1);
        List<Integer> deaf = Edge.everything(x);
        x.act(2, 1, 1);
        List<Integer> late = Edge.everything(x);
        x.act(3, 0, 3);
        x.act(1, 0, 0);
        List<Integer> gate = Edge.everything(x);
        edge.due("a fire", x.breaths(1), 1);
        edge.due("what can be undone", x.look(15), 6);
        x.undo();
        edge.same("the BREATH", Edge.everything(x), gate);
        x.undo();
        x.undo();
        edge.same("the GATE", Edge.everything(x), late);
        x.undo();
        edge.same("LATE", Edge.everything(x), deaf);
        x.undo();
        edge.same("DEAF", Edge.everything(x), told);
        x.undo();
        edge.same("the TELLING", Edge.everything(x), first);
        edge.due("nothing more", x.undo(), false);
    }

    private void undoOfTheLast() {
        edge.words(TERMS, "UNDO: the latest BREATH, TELLING, DEAF, LATE, GATE not undone yet goes back (THE LOG, too):");
        BeaconWall x = wallOf(32, false);
        x.act(0, 31, 6);
        x.breaths(1);
        x.act(1, 31, 1);
        x.act(2, 31, 1);
        x.act(3, 31, 2);
        x.act(0, 31, 5);
        x.breaths(1);
        x.undo();
        int[] due = {5, 6, 1, 1, 2};
        for (int what = 0; what <= 4; what++) {
            edge.due("of(31, " + what + ") ahead of the BREATH", x.of(31, what), due[what]);
        }
        x.image(true);
        x.wall(32, true);
        x.image(false);
        for (int what = 0; what <= 4; what++) {
            edge.due("of(31, " + what + ") of THE IMAGE", x.of(31, what), due[what]);
        }
    }

    private void undoKeepsSix() {
        edge.words(TERMS, "6 are kept;");
        BeaconWall x = wallOf(1, false);
        for (int i = 1; i <= 7; i++) {
            x.act(0, 0, i);
            edge.due("what can be undone behind " + i, x.look(15), Math.min(i, 6));
        }
        for (int i = 6; i >= 1; i--) {
            edge.due("undo", x.undo(), true);
            edge.due("MIND", x.of(0, 0), i);
            edge.due("what can be undone", x.look(15), i - 1);
        }
        edge.due("the seventh", x.undo(), false);
        x.breaths(60);
        edge.due("of sixty breaths six", x.look(15), 6);
        for (int i = 0; i < 6; i++) {
            x.undo();
        }
        edge.due("BREATH", x.look(2), 54);
        edge.due("the seventh", x.undo(), false);
        edge.due("BREATH stays", x.look(2), 54);
        x.act(0, 0, 5);
        x.act(0, 0, 6);
        x.undo();
        x.act(0, 0, 7);
        x.undo();
        edge.due("not one undone already", x.of(0, 0), 5);
        x.undo();
        edge.due("but the one ahead of it", x.of(0, 0), 1);
    }

    private void whatForgets() {
        edge.words(TERMS, "wall(), PAGES and PLAN told forget them (the taking of THE IMAGE does not).");
        BeaconWall x = wallOf(1, false);
        for (int k = 0; k <= 4; k++) {
            x.act(0, 0, 1);
            Edge.tell(x, k, "?");
            edge.due("text " + k + " with a FAULT does not", x.look(15), 1);
            x.text(k);
            edge.due("text " + k + " does", x.look(15), 0);
            edge.due("nothing is undone", x.undo(), false);
        }
        x.act(0, 0, 1);
        x.text(5);
        x.text(6);
        x.image(true);
        x.keeps();
        x.goes(0, 0, 0, 1);
        x.wall(-1, false);
        edge.due("TREE, THE IMAGE taken, a wall that can't be and others do not", x.look(15), 1);
        x.wall(1, false);
        edge.due("wall() does", x.look(15), 0);
        edge.due("nothing is undone", x.undo(), false);
    }

    private void image() {
        edge.words(43, "THE IMAGE is taken (true), or gone back to (false): true; false if there is none.");
        BeaconWall x = wallOf(2, false);
        edge.due("none yet", x.image(false), false);
        edge.due("nothing is changed", x.look(0), 2);
        edge.due("taken", x.image(true), true);
        x.wall(3, false);
        edge.due("gone back to", x.image(false), true);
        edge.due("KEEPERS", x.look(0), 2);
        x.wall(4, false);
        edge.due("taken anew", x.image(true), true);
        x.wall(5, false);
        edge.due("gone back to", x.image(false), true);
        edge.due("KEEPERS as taken last", x.look(0), 4);
    }

    private void imageHasAll() {
        edge.words(TERMS, "THE IMAGE: all that is and was told but the TAPE, fault() and what can be undone (nothing then), "
            + "as it was when it was taken; gone back to it may be more than once.");
        BeaconWall x = Edge.with("1 any any>2;");
        x.keeps();
        for (int p = 1; p < 4; p++) {
            Edge.tell(x, p, p + " any any>3;");
        }
        Edge.tell(x, 4, "at 1 deaf 0;");
        Edge.tell(x, 5, "keeper 3 below 2;");
        x.goes(3, 2, 1, 4);
        x.wall(2, true);
        x.act(0, 0, 7);
        x.act(2, 1, 1);
        x.act(3, 1, 2);
        x.breaths(1);
        List<Integer> ahead = Edge.everything(x);
        x.image(true);
        edge.same("taking it changes nothing", Edge.everything(x), ahead);
        ahead.set(15, 0);
        Edge.tell(x, 0, "?");
        for (int i = 0; i < 2; i++) {
            for (int k = 0; k <= 5; k++) {
                Edge.tell(x, k, "");
            }
            x.keeps();
            x.goes(NONE, 0, 0, 0);
            x.goes(9, 9, 9, 9);
            x.goes(9, 9, 9, 8);
            x.wall(4, false);
            x.act(1, 0, 1);
            x.breaths(3);
            Edge.tell(x, 0, " ?");
            Check.feed(x, "xyz");
            edge.due("gone back to", x.image(false), true);
            edge.same("all as it was, nothing to be undone", Edge.everything(x), ahead);
            edge.due("nothing to be undone", x.undo(), false);
            edge.due("PAGE 0", x.says(1, 0, 0, 0), 2);
            edge.due("PAGE 3", x.says(3, 0, 0, 1), 72);
            edge.due("THE OTHER BOOK has PAGE 0 alone", x.look(14), 1);
            edge.due("TREE: KEEPERS 0 .. 3", x.trees(1), 0);
            edge.due("one MARK", x.echo(1, 99, 0, 0), -10000000);
            edge.due("that MARK", x.echo(0, 99, 1, 0), 13);
            edge.due("fault() is not of it", x.fault(1), 1);
            edge.due("the TAPE is not of it", x.end(3), true);
            x.end(0);
        }
        edge.due("the fire of a keeper", x.breaths(1), 1);
        edge.due("PLAN", x.of(0, 2), 1);
    }

    private void look() {
        edge.words(44, "What 0 KEEPERS, 1 ROUND, 2 BREATH, 3 ASKED, 4 FIRST (NONE), 5 TOGETHER, 6 fires lit, 7 lines of THE LOG, "
            + "8 .. 11 RULES of PAGE 0 .. 3, 12 lines of PLAN, 13 of TREE, 14 RULES of THE OTHER BOOK, 15 what can be undone.");
        BeaconWall x = new BeaconWall();
        edge.due("FIRST NONE", x.look(4), NONE);
        Edge.tell(x, 0, "1 any any>7;");
        Edge.tell(x, 1, "0 any any>0;0 any any>0;");
        Edge.tell(x, 2, "0 any any>0;0 any any>0;0 any any>0;");
        x.keeps();
        Edge.tell(x, 3, "0 any any>0;0 any any>0;0 any any>0;0 any any>0;");
        Edge.tell(x, 4, "at 9 deaf 0;at 9 deaf 0;at 9 deaf 0;at 9 deaf 0;at 9 deaf 0;");
        Edge.tell(x, 5, "keeper 1 below 0;keeper 2 below 0;keeper 3 below 0;");
        x.wall(8, true);
        x.breaths(1);
        x.act(0, 3, 1);
        x.act(0, 5, 1);
        x.breaths(1);
        x.act(0, 7, 7);
        int[] due = {8, 1, 2, 16, 1, 2, 3, 4, 1, 2, 3, 4, 5, 3, 6, 5};
        for (int what = 0; what <= 15; what++) {
            edge.due("look(" + what + ")", x.look(what), due[what]);
        }
    }

    private void lookRefused() {
        edge.words(44, "NONE for another what.");
        BeaconWall x = wallOf(3, true);
        for (int what : Edge.beyond(0, 15)) {
            edge.due("look(" + what + ")", x.look(what), NONE);
        }
    }
}
