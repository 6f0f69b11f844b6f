import java.math.BigInteger;

/** Promises 16 to 18, 24, 27, 30, 33 to 36 and 40, and what the terms say of them: sentence by sentence. */
final class EdgesOfTrials {
    private static final int TERMS = Edge.TERMS;
    private static final int NONE = Edge.NONE;
    private static final int FAR = NONE - 9999999;
    /** GOOD for every length; its rules are asked first at the lengths 4, 2, 3, 1, 1, the sixth never. */
    private static final String LINES = "0 0 0>2;0 1 any>2;0 0 end>2;1 any any>2;2 any any>7;6 any any>5;";

    private final Edge edge;

    EdgesOfTrials(Edge edge) {
        this.edge = edge;
    }

    void all() {
        worn();
        mends();
        more();
        moreRules();
        alike();
        alikeRuns();
        before();
        enough();
        mixed();
        goes();
        meets();
        meetsOfTwo();
        echo();
        echoOfAMark();
        lights();
    }

    // ---- other books

    private void worn() {
        edge.words(16, "WORN; NONE, too, if there is no such RULE, or N can't be.");
        BeaconWall x = new BeaconWall();
        edge.due("no RULES", x.worn(0, 24), NONE);
        Edge.tell(x, 1, LINES);
        Edge.tell(x, 3, "0 0 0>0;".repeat(24));
        for (int rule : new int[] {-1, 0, 23, 30, 47, 48, 71, 96, 97, Edge.LEAST, Edge.MOST}) {
            edge.due("worn(" + rule + ", 24)", x.worn(rule, 24), NONE);
        }
        for (int to : Edge.beyond(1, 24)) {
            edge.due("worn(27, " + to + ")", x.worn(27, to), NONE);
        }
        edge.due("worn(27, 1)", x.worn(27, 1), 1);
        edge.due("worn(27, 24)", x.worn(27, 24), 1);
        edge.words(TERMS, "WORN RULE i, N: the first n the RUN of which is not GOOD without it (NONE).");
        int[] first = {4, 2, 3, 1, 1, NONE};
        for (int i = 0; i < 6; i++) {
            edge.due("worn(" + (24 + i) + ", 24)", x.worn(24 + i, 24), first[i]);
            edge.due("worn(" + (24 + i) + ", 3)", x.worn(24 + i, 3), first[i] == 4 ? NONE : first[i]);
        }
        edge.due("nothing of it stays", x.worn(24, 24), 4);
        edge.due("a worn rule lets one behind it decide", Edge.with("any any any>1;" + Edge.ALL).worn(0, 24), NONE);
        BeaconWall full = new BeaconWall();
        for (int p = 0; p < 4; p++) {
            Edge.tell(full, p, "6 6 6>0;".repeat(23) + (p == 3 ? Edge.ALL : "6 6 6>0;"));
        }
        edge.due("the last of a full book", full.worn(95, 24), 1);
        edge.due("the one ahead of it", full.worn(94, 24), NONE);
        edge.due("none is behind it", full.worn(96, 24), NONE);
    }

    private void mends() {
        edge.words(17, "MENDS; NONE if there is no such RULE, or N can't be.");
        BeaconWall x = new BeaconWall();
        edge.due("no RULES", x.mends(0, 24), NONE);
        Edge.tell(x, 1, LINES);
        for (int rule : new int[] {-1, 0, 23, 30, 47, 48, 96, Edge.LEAST, Edge.MOST}) {
            edge.due("mends(" + rule + ", 24)", x.mends(rule, 24), NONE);
        }
        for (int to : Edge.beyond(1, 24)) {
            edge.due("mends(27, " + to + ")", x.mends(27, to), NONE);
        }
        edge.words(TERMS, "MENDS of RULE i, N: with which M (bits 0 .. 7, 8: same; its own is tried, too) in the place of its own all RUNS to N "
            + "are GOOD: a set.");
        edge.due("its own alone", x.mends(24, 24), 1 << 2);
        edge.due("all, of one not asked to 3", x.mends(24, 3), 511);
        edge.due("all, of one never asked", x.mends(29, 24), 511);
        edge.due("to 1", x.mends(27, 1), 1 << 2 | 1 << 7);
        edge.due("none", Edge.with("1 any any>3;").mends(0, 24), 0);
        edge.due("MIND 0 is the least bit", Edge.with("1 any any>3;0 any any>7;").mends(0, 1), 1 | 1 << 7);
        edge.due("same alone stays", Edge.with("1 end 0>1;0 1 end>2;0 2 any>0;1 1 2>1;2 1 any>7;1 any 2>7;1 end end>7;").mends(0, 2), 1 << 1 | 1 << 8);
        edge.due("nothing of it stays", x.mends(24, 24), 1 << 2);
        for (int p = 0; p < 4; p++) {
            BeaconWall y = new BeaconWall();
            Edge.tell(y, p, Edge.ALL + "6 6 6>0;".repeat(22) + "5 5 5>0;");
            edge.due("the first RULE of PAGE " + p, y.mends(24 * p, 2), 1 << 7);
            Edge.tell(y, p, "6 6 6>0;".repeat(23) + Edge.ALL);
            edge.due("the last RULE of PAGE " + p, y.mends(24 * p + 23, 2), 1 << 7);
            edge.due("the one ahead of it", y.mends(24 * p + 22, 2), 511);
        }
    }

    private void more() {
        edge.words(18, "MORE what 0 how many, 1 the least.");
        BeaconWall x = Edge.with("0 0 0>5;" + Edge.ALL);
        edge.due("more(8, 0)", x.more(8, 0), 1);
        edge.due("more(8, 1)", x.more(8, 1), 7);
        edge.words(18, "NONE if N can't be, or another what.");
        for (int what = 0; what <= 1; what++) {
            for (int to : Edge.beyond(1, 8)) {
                edge.due("more(" + to + ", " + what + ")", x.more(to, what), NONE);
            }
        }
        for (int what : Edge.beyond(0, 1)) {
            edge.due("more(1, " + what + ")", x.more(1, what), NONE);
        }
    }

    private void moreRules() {
        edge.words(TERMS, "MORE to N (1 .. 8): one RULE (an own, a left, a right, each just one, and a MIND other than what THE BOOK says; "
            + "own 0 .. 6) ahead of all others: by how many of these all RUNS to N are GOOD; the least (1000 own + 100 left + 10 right + "
            + "MIND; NOBODY is 8; NONE).");
        BeaconWall x = new BeaconWall();
        edge.due("an empty book to 1", x.more(1, 0), 1);
        edge.due("1 end end > 7", x.more(1, 1), 1887);
        edge.due("an empty book to 2", x.more(2, 0), 0);
        edge.due("an empty book to 2", x.more(2, 1), NONE);
        x = Edge.with(Edge.ALL);
        // 7 MINDS of each of 567 cases; to 1 one case is asked, and of its MINDS only to stay at 1 spoils it.
        edge.due("other than what it says", x.more(1, 0), 7 * 567 - 1);
        edge.due("0 0 0 > 0 is the least", x.more(1, 1), 0);
        // Ahead of all others: a rule that is behind none mends what the first rule spoils.
        x = Edge.with("6 end end>1;1 end end>6;6 any any>7;");
        edge.due("ahead of all others", x.more(1, 0), 2);
        edge.due("1 end end > 7", x.more(1, 1), 1887);
        // 0 0 0 > 2, 4 4 4 > 3, 5 5 5 > 6 and 5 6 6 > 7 mend what is wrong with eight.
        x = Edge.with(Edge.SEVEN);
        edge.due("to 8", x.more(8, 0), 4);
        edge.due("to 8", x.more(8, 1), 2);
        edge.due("to 7 none is needed", x.more(7, 0) > 4, true);
        edge.due("own 6 is the greatest", Edge.with("1 end end>6;").more(1, 1), 1887);
        edge.due("own 6 is tried, too", Edge.with("1 end end>6;").more(1, 0), 2);
    }

    private void alike() {
        edge.words(24, "ALIKE what 0 the first n, 1 behind how many, 2 the KEEPER.");
        BeaconWall x = Edge.with("1 any any>2;0 2 any>3;");
        x.keeps();
        Edge.tell(x, 0, "1 any any>2;0 2 any>4;");
        int[] due = {2, 2, 1};
        for (int what = 0; what <= 2; what++) {
            edge.due("alike(24, " + what + ")", x.alike(24, what), due[what]);
            edge.due("alike(2, " + what + ")", x.alike(2, what), due[what]);
            edge.due("alike(1, " + what + ")", x.alike(1, what), NONE);
        }
        edge.words(24, "NONE if N can't be, or another what.");
        for (int what = 0; what <= 2; what++) {
            for (int to : Edge.beyond(1, 24)) {
                edge.due("alike(" + to + ", " + what + ")", x.alike(to, what), NONE);
            }
        }
        for (int what : Edge.beyond(0, 2)) {
            edge.due("alike(24, " + what + ")", x.alike(24, what), NONE);
        }
    }

    private void alikeRuns() {
        edge.words(TERMS, "ALIKE to N (1 .. 24): the first n by which RUNS (with either book, KEEPER 0, all of 3 n + 20 breaths or till a fire "
            + "is lit in one) are not breath by breath one (NONE); behind how many breaths; the least KEEPER.");
        BeaconWall x = new BeaconWall();
        for (int what = 0; what <= 2; what++) {
            edge.due("two empty ones", x.alike(24, what), NONE);
        }
        Edge.tell(x, 0, Edge.CLOCK);
        x.keeps();
        Edge.tell(x, 1, "4 2 any>5;");
        edge.due("at the last of 26 breaths of two", x.alike(2, 1), 26);
        edge.due("its KEEPER", x.alike(2, 2), 1);
        Edge.tell(x, 1, "4 3 any>5;");
        edge.due("a breath later", x.alike(2, 0), NONE);
        edge.due("three have 29 breaths", x.alike(3, 0), 3);
        edge.due("behind 27 of them", x.alike(3, 1), 27);
        x = Edge.with("1 any any>7;");
        x.keeps();
        Edge.tell(x, 1, "0 7 any>3;0 any any>same;");
        edge.due("unlike only behind a fire", x.alike(24, 0), NONE);
        Edge.tell(x, 1, "0 0 end>3;");
        edge.due("unlike in the breath of the fire", x.alike(24, 0), 3);
        edge.due("behind one", x.alike(24, 1), 1);
        edge.due("KEEPER 2", x.alike(24, 2), 2);
        x = Edge.with("1 any any>7;");
        x.keeps();
        Edge.tell(x, 0, "");
        edge.due("a fire in one alone is unlike", x.alike(24, 1), 1);
        // Rules of another wording that say the same.
        x = Edge.with("any any any>same;");
        x.keeps();
        Edge.tell(x, 0, "");
        edge.due("alike in what they do", x.alike(24, 0), NONE);
    }

    private void before() {
        edge.words(27, "BEFORE; NONE without KEEPERS.");
        BeaconWall x = new BeaconWall();
        edge.due("without KEEPERS", x.before(), NONE);
        x.wall(0, true);
        edge.due("a wall of none", x.before(), NONE);
        x.wall(1, false);
        edge.due("one", x.before(), 1);
        edge.words(TERMS, "BEFORE: in how many ways THE WALL (its MINDS; as a row, none deaf, none late, all open; at least one KEEPER) "
            + "can come of a row by one breath (modulo 1000000007).");
        Edge.tell(x, 0, "0 end end>1;");
        x.act(0, 0, 1);
        for (boolean ring : new boolean[] {false, true}) {
            x.wall(1, ring);
            edge.due("none becomes 0", x.before(), 0);
            x.act(0, 0, 1);
            edge.due("0 and 1 become 1, as a row", x.before(), 2);
            x.act(1, 0, 1);
            x.act(2, 0, 1);
            x.act(3, 0, 3);
            edge.due("none deaf, none late, all open", x.before(), 2);
        }
        x = Edge.with(Edge.ALL);
        for (int n : new int[] {1, 2, 9, 10, 31, 32}) {
            x.wall(n, false);
            edge.due("none becomes 0", x.before(), 0);
            for (int i = 0; i < n; i++) {
                x.act(0, i, 7);
            }
            edge.due("8 to the " + n, x.before(), power(8, n));
        }
        x = Edge.with("0 any any>1;");
        x.wall(30, false);
        for (int i = 0; i < 30; i++) {
            x.act(0, i, 1);
        }
        edge.due("2 to the 30, beyond the modulus", x.before(), (1 << 30) - 1000000007);
        x.act(0, 29, 2);
        edge.due("2 to the 29, below it", x.before(), 1 << 29);
        // Who sees: a 0 with a 1 left of it becomes 2, one with a 1 right of it 3.
        x = Edge.with("0 1 any>2;0 any 1>3;7 any any>0;");
        x.wall(3, false);
        x.act(0, 0, 3);
        x.act(0, 1, 1);
        x.act(0, 2, 2);
        edge.due("0 or 3, then 1, then 0 or 2", x.before(), 4);
        x = new BeaconWall();
        x.wall(32, false);
        for (int i = 0; i < 32; i++) {
            x.act(0, i, i * 5 % 8);
        }
        edge.due("without RULES itself alone", x.before(), 1);
        Edge.tell(x, 0, "3 end any>4;0 2 any>3;5 any 6>1;6 5 end>2;6 2 any>3;");
        x.wall(1, false);
        x.act(0, 0, 4);
        edge.due("3 and 4", x.before(), 2);
        x.wall(2, false);
        x.act(0, 0, 4);
        edge.due("3 or 4, then 0", x.before(), 2);
        x.act(0, 0, 0);
        x.act(0, 1, 4);
        edge.due("0, then 4: a 3 there stays", x.before(), 1);
        x.act(0, 0, 2);
        x.act(0, 1, 3);
        edge.due("2, then 0, 3 or 6", x.before(), 3);
        x.wall(3, false);
        x.act(0, 0, 2);
        x.act(0, 1, 3);
        edge.due("2, then 0, 3 or 6, then 0", x.before(), 3);
        x.act(0, 0, 1);
        edge.due("1, 3, 0", x.before(), 1);
        x.act(0, 1, 1);
        x.act(0, 2, 2);
        edge.due("1, then 5 6 or 1 2", x.before(), 2);
        x.wall(1, false);
        x.act(0, 0, 7);
        edge.due("a lit one stays", x.before(), 1);
        Edge.tell(x, 0, "7 any any>0;");
        x.act(0, 0, 0);
        edge.due("a lit one becomes not 0", x.before(), 1);
    }

    private static long power(int base, int n) {
        return BigInteger.valueOf(base).modPow(BigInteger.valueOf(n), BigInteger.valueOf(1000000007)).longValue();
    }

    private void enough() {
        edge.words(30, "ENOUGH; NONE, too, if N can't be.");
        BeaconWall x = Edge.with(Edge.ALL);
        edge.due("enough(1)", x.enough(1), 1);
        edge.due("enough(24)", x.enough(24), 1);
        for (int to : Edge.beyond(1, 24)) {
            edge.due("enough(" + to + ")", x.enough(to), NONE);
        }
        edge.words(TERMS, "ENOUGH to N (1 .. 24): the fewest PAGES alone by which all RUNS to N are GOOD: a set (bits 0 .. 3; "
            + "of several the least; NONE).");
        x = new BeaconWall();
        edge.due("none", x.enough(1), NONE);
        String[] rules = {"0,1 any any>2;", "2 any any>3;", "3 any any>4;", "4 any any>7;"};
        for (int p = 0; p < 4; p++) {
            edge.due("not yet with " + p, x.enough(24), NONE);
            Edge.tell(x, p, rules[p]);
        }
        edge.due("all four", x.enough(24), 15);
        Edge.tell(x, 3, "4 any any>7;2 any any>7;");
        edge.due("pages 0 and 3", x.enough(24), 9);
        Edge.tell(x, 2, "3 any any>4;2 any any>7;");
        edge.due("of several the least", x.enough(24), 5);
        Edge.tell(x, 3, "any any any>7;");
        edge.due("the fewest, though the set is greater", x.enough(24), 8);
        Edge.tell(x, 0, "1 end end>7;");
        edge.due("to 1", x.enough(1), 1);
        edge.due("to 2", x.enough(2), 8);
        Edge.tell(x, 0, "any any any>0;");
        edge.due("a page that spoils the book is left out", x.enough(24), 8);
    }

    private void mixed() {
        edge.words(40, "MIXED what 0 by how many, 1 the least.");
        BeaconWall x = Edge.with(Edge.ALL);
        edge.due("mixed(1, 0)", x.mixed(1, 0), 8);
        edge.due("mixed(24, 0)", x.mixed(24, 0), 8);
        edge.due("mixed(24, 1)", x.mixed(24, 1), 0);
        edge.words(40, "NONE, too, if N can't be, or another what.");
        for (int what = 0; what <= 1; what++) {
            for (int to : Edge.beyond(1, 24)) {
                edge.due("mixed(" + to + ", " + what + ")", x.mixed(to, what), NONE);
            }
        }
        for (int what : Edge.beyond(0, 1)) {
            edge.due("mixed(24, " + what + ")", x.mixed(24, what), NONE);
        }
        edge.words(TERMS, "MIXED to N (1 .. 24): each PAGE is that of THE BOOK or that of THE OTHER BOOK: by how many of these 16 books all "
            + "RUNS to N are GOOD; the least of them (bits 0 .. 3: the PAGES that are of THE OTHER BOOK; NONE).");
        x.keeps();
        edge.due("all 16", x.mixed(24, 0), 16);
        edge.due("the least", x.mixed(24, 1), 0);
        for (int p = 0; p < 4; p++) {
            BeaconWall y = new BeaconWall();
            Edge.tell(y, p, Edge.ALL);
            y.keeps();
            Edge.tell(y, p, "");
            edge.due("page " + p + " of THE OTHER BOOK", y.mixed(24, 0), 8);
            edge.due("page " + p + " of THE OTHER BOOK", y.mixed(24, 1), 1 << p);
        }
        BeaconWall y = new BeaconWall();
        edge.due("none", y.mixed(24, 0), 0);
        edge.due("none", y.mixed(24, 1), NONE);
        String[] rules = {"0,1 any any>2;", "2 any any>3;", "3 any any>4;", "4 any any>7;"};
        for (int p = 0; p < 4; p++) {
            Edge.tell(y, p, rules[p]);
        }
        y.keeps();
        for (int p = 0; p < 4; p++) {
            Edge.tell(y, p, "");
        }
        edge.due("all of THE OTHER BOOK", y.mixed(24, 0), 1);
        edge.due("all of THE OTHER BOOK", y.mixed(24, 1), 15);
        y.keeps();
        edge.due("none, though some were", y.mixed(24, 1), NONE);
        edge.due("none, though some were", y.mixed(24, 0), 0);
    }

    // ---- marks

    private void goes() {
        edge.words(33, "A MARK (p NONE: none is then): how many; NONE if one can't be, or there are eight.");
        BeaconWall x = new BeaconWall();
        edge.due("none is then", x.goes(NONE, 0, 0, 1), 0);
        for (int p : new int[] {-2, 100, Edge.LEAST, Edge.MOST}) {
            edge.due("goes(" + p + ", 0, 0, 1)", x.goes(p, 0, 0, 1), NONE);
        }
        for (int s : Edge.beyond(0, 99)) {
            edge.due("goes(0, " + s + ", 0, 1)", x.goes(0, s, 0, 1), NONE);
        }
        for (int a : Edge.beyond(-9, 9)) {
            edge.due("goes(0, 0, " + a + ", 1)", x.goes(0, 0, a, 1), NONE);
        }
        for (int b : Edge.beyond(1, 9)) {
            edge.due("goes(0, 0, 0, " + b + ")", x.goes(0, 0, 0, b), NONE);
        }
        edge.words(TERMS, "MARKS, up to 8 told (from place p 0 .. 99 at breath s 0 .. 99 with speed a by b, a -9 .. 9, b 1 .. 9):");
        int[][] marks = {{0, 0, -9, 1}, {99, 99, 9, 9}, {0, 99, 0, 1}, {99, 0, 0, 9}, {1, 1, 1, 1}, {1, 1, 1, 1}, {1, 1, 1, 1}, {9, 1, 1, 1}};
        for (int i = 0; i < 8; i++) {
            edge.due("goes " + i, x.goes(marks[i][0], marks[i][1], marks[i][2], marks[i][3]), i + 1);
        }
        edge.due("a ninth", x.goes(0, 0, 0, 1), NONE);
        edge.due("the eighth stands still", x.echo(7, 99, 0, 0), 9);
        edge.due("there is no ninth", x.echo(8, 99, 0, 0), FAR);
        edge.due("none is then", x.goes(NONE, 0, 0, 1), 0);
        edge.due("none is there", x.echo(0, 99, 0, 0), FAR);
        edge.due("one again", x.goes(5, 0, 0, 1), 1);
        edge.due("it is the first", x.echo(0, 99, 0, 0), 5);
    }

    private void meets() {
        edge.words(34, "MEETS of MARKS i, j what 0 the breath (above), 1 below, 2 the place (above), 3 below.");
        BeaconWall x = new BeaconWall();
        x.goes(0, 0, 1, 2);
        x.goes(10, 0, -1, 3);
        // t by 2 is 10 less t by 3: t is 12, the place 6.
        int[] due = {12, 1, 6, 1};
        for (int what = 0; what <= 3; what++) {
            edge.due("meets(0, 1, " + what + ")", x.meets(0, 1, what), due[what]);
            edge.due("meets(1, 0, " + what + ")", x.meets(1, 0, what), due[what]);
        }
        edge.words(34, "NONE - 9999999 if there is none such (alike), never, always, or another what.");
        x.goes(1, 0, 2, 4);
        x.goes(1, 2, 1, 2);
        for (int what = 0; what <= 3; what++) {
            edge.due("alike", x.meets(0, 0, what), FAR);
            edge.due("never", x.meets(0, 2, what), FAR);
            edge.due("always", x.meets(0, 3, what), FAR);
            for (int i : Edge.beyond(0, 3)) {
                edge.due("meets(" + i + ", 0, " + what + ")", x.meets(i, 0, what), FAR);
                edge.due("meets(0, " + i + ", " + what + ")", x.meets(0, i, what), FAR);
                edge.due("meets(" + i + ", " + i + ", " + what + ")", x.meets(i, i, what), FAR);
            }
        }
        for (int what : Edge.beyond(0, 3)) {
            edge.due("meets(0, 1, " + what + ")", x.meets(0, 1, what), FAR);
        }
        edge.due("without MARKS", new BeaconWall().meets(0, 1, 0), FAR);
    }

    private void meetsOf(int[] one, int[] other, int... due) {
        BeaconWall x = new BeaconWall();
        x.goes(one[0], one[1], one[2], one[3]);
        x.goes(other[0], other[1], other[2], other[3]);
        for (int what = 0; what <= 3; what++) {
            edge.due("meets(0, 1, " + what + ")", x.meets(0, 1, what), due[what]);
            edge.due("meets(1, 0, " + what + ")", x.meets(1, 0, what), due[what]);
        }
    }

    private void meetsOfTwo() {
        edge.words(TERMS, "MEETS of two, as if for ever: the breath as a fraction in lowest terms (below), the place likewise "
            + "(NONE - 9999999: never, or always).");
        meetsOf(new int[] {0, 0, 1, 1}, new int[] {0, 0, 0, 1}, 0, 1, 0, 1);
        // As if for ever: ahead of breath 0, and at places below 0.
        meetsOf(new int[] {0, 0, 1, 1}, new int[] {10, 0, 2, 1}, -10, 1, -10, 1);
        meetsOf(new int[] {0, 0, 1, 2}, new int[] {1, 0, 3, 2}, -1, 1, -1, 2);
        meetsOf(new int[] {1, 0, 2, 1}, new int[] {0, 0, -2, 1}, -1, 4, 1, 2);
        meetsOf(new int[] {0, 0, 0, 9}, new int[] {1, 0, 3, 9}, -3, 1, 0, 1);
        // Beyond the wall's 99 places and 99 breaths.
        meetsOf(new int[] {0, 0, 9, 8}, new int[] {99, 0, 9, 9}, 792, 1, 891, 1);
        meetsOf(new int[] {99, 99, 8, 9}, new int[] {0, 0, 7, 8}, -792, 1, -693, 1);
        meetsOf(new int[] {99, 99, 7, 8}, new int[] {0, 0, 8, 9}, 891, 1, 792, 1);
        meetsOf(new int[] {0, 99, -9, 1}, new int[] {99, 0, 9, 1}, 44, 1, 495, 1);
        meetsOf(new int[] {0, 99, 9, 7}, new int[] {99, 0, -9, 8}, 1408, 15, -33, 5);
        meetsOf(new int[] {3, 5, 1, 3}, new int[] {3, 5, -1, 3}, 5, 1, 3, 1);
    }

    private void echo() {
        edge.words(35, "ECHO what 0 above, 1 below.");
        BeaconWall x = new BeaconWall();
        x.goes(2, 7, 3, 4);
        edge.due("echo(0, 99, 3, 0)", x.echo(0, 99, 3, 0), 17);
        edge.due("echo(0, 99, 3, 1)", x.echo(0, 99, 3, 1), 4);
        edge.words(35, "NONE - 9999999 if there is none such (p above n - 1), one can't be, or another what.");
        for (int what = 0; what <= 1; what++) {
            edge.due("p above n - 1", x.echo(0, 2, 0, what), FAR);
            edge.due("p is n - 1", x.echo(0, 3, 0, what), what == 0 ? 2 : 1);
            for (int i : Edge.beyond(0, 0)) {
                edge.due("echo(" + i + ", 99, 0, " + what + ")", x.echo(i, 99, 0, what), FAR);
            }
            for (int n : Edge.beyond(2, 99)) {
                edge.due("echo(0, " + n + ", 0, " + what + ")", x.echo(0, n, 0, what), FAR);
            }
            for (int t : Edge.beyond(0, 999)) {
                edge.due("echo(0, 99, " + t + ", " + what + ")", x.echo(0, 99, t, what), FAR);
            }
        }
        for (int what : Edge.beyond(0, 1)) {
            edge.due("echo(0, 99, 0, " + what + ")", x.echo(0, 99, 0, what), FAR);
        }
        edge.due("without MARKS", new BeaconWall().echo(0, 99, 0, 0), FAR);
        x = new BeaconWall();
        x.goes(0, 0, 1, 1);
        edge.due("a wall of one", x.echo(0, 1, 0, 0), FAR);
        edge.due("a wall of 100", x.echo(0, 100, 0, 0), FAR);
        edge.due("a wall of two", x.echo(0, 2, 1, 0), 1);
        x.goes(99, 0, 0, 1);
        edge.due("p 99 is beyond every wall", x.echo(1, 99, 0, 0), FAR);
    }

    private void echoOf(int[] mark, int n, int t, int above, int below) {
        BeaconWall x = new BeaconWall();
        x.goes(mark[0], mark[1], mark[2], mark[3]);
        String call = "(0, " + n + ", " + t + ", ";
        edge.due("echo" + call + "0)", x.echo(0, n, t, 0), above);
        edge.due("echo" + call + "1)", x.echo(0, n, t, 1), below);
    }

    private void echoOfAMark() {
        edge.words(TERMS, "ECHO of a MARK on a wall of n (2 .. 99), that turns at 0 and n - 1: its place behind t (0 .. 999) breaths "
            + "from its s on as a fraction.");
        int[] right = {0, 99, 1, 1};
        for (int t = 0; t <= 12; t++) {
            int way = t % 8;
            echoOf(right, 5, t, way <= 4 ? way : 8 - way, 1);
        }
        int[] left = {4, 0, -1, 1};
        for (int t = 0; t <= 12; t++) {
            int way = t % 8;
            echoOf(left, 5, t, way <= 4 ? 4 - way : way - 4, 1);
        }
        echoOf(right, 2, 998, 0, 1);
        echoOf(right, 2, 999, 1, 1);
        echoOf(right, 99, 999, 19, 1);
        echoOf(new int[] {0, 0, 0, 9}, 2, 999, 0, 1);
        // It turns between two breaths, too: 9 by 2 a breath on a wall of two.
        echoOf(new int[] {1, 0, -9, 2}, 2, 1, 1, 2);
        echoOf(new int[] {1, 0, -9, 2}, 2, 2, 0, 1);
        echoOf(new int[] {0, 0, -1, 2}, 2, 1, 1, 2);
        echoOf(new int[] {0, 0, -2, 4}, 2, 1, 1, 2);
        echoOf(new int[] {98, 0, 1, 9}, 99, 1, 881, 9);
        echoOf(new int[] {98, 0, 9, 1}, 99, 999, 73, 1);
    }

    private void lightsOf(int n, int lit, int fewest, int set) {
        BeaconWall x = new BeaconWall();
        edge.due("lights(" + n + ", " + lit + ", 0)", x.lights(n, lit, 0), fewest);
        edge.due("lights(" + n + ", " + lit + ", 1)", x.lights(n, lit, 1), set);
    }

    private void lights() {
        edge.words(36, "LIGHTS what 0 the fewest, 1 the set.");
        lightsOf(4, 0, 2, 9);
        edge.words(36, "NONE, too, if one can't be (lit: bits below 2 to the n), or another what.");
        BeaconWall x = new BeaconWall();
        for (int what = 0; what <= 1; what++) {
            for (int n : Edge.beyond(1, 12)) {
                edge.due("lights(" + n + ", 0, " + what + ")", x.lights(n, 0, what), NONE);
                edge.due("lights(" + n + ", 1, " + what + ")", x.lights(n, 1, what), NONE);
            }
            for (int n : new int[] {1, 3, 12}) {
                for (int lit : Edge.beyond(0, (1 << n) - 1)) {
                    edge.due("lights(" + n + ", " + lit + ", " + what + ")", x.lights(n, lit, what), NONE);
                }
                edge.due("lights(" + n + ", all, " + what + ")", x.lights(n, (1 << n) - 1, what), 0);
            }
        }
        for (int what : Edge.beyond(0, 1)) {
            edge.due("lights(3, 0, " + what + ")", x.lights(3, 0, what), NONE);
        }
        edge.words(TERMS, "LIGHTS of bits of n (1 .. 12) lamps: to touch one changes it and those beside it: the fewest touches till all are "
            + "lit (NONE); the set (of several the least).");
        lightsOf(1, 0, 1, 1);
        lightsOf(1, 1, 0, 0);
        lightsOf(2, 0, 1, 1);
        lightsOf(2, 1, NONE, NONE);
        lightsOf(2, 2, NONE, NONE);
        lightsOf(3, 0, 1, 2);
        lightsOf(5, 0, 2, 9);
        lightsOf(5, 7, 1, 16);
        lightsOf(8, 31, 1, 64);
        lightsOf(12, 0, 4, 1 << 1 | 1 << 4 | 1 << 7 | 1 << 10);
        lightsOf(12, 4095 ^ 3, 1, 1);
        lightsOf(12, 4095 ^ 3 << 10, 1, 1 << 11);
        lightsOf(12, 4095 ^ 7 << 9, 1, 1 << 10);
    }
}
