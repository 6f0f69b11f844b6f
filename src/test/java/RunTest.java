/** Promises 12 to 15, 19 to 22, 25, 26 and 37 to 39: runs of one book in thought. */
public final class RunTest {
    private static final Check CHECK = new Check("RunTest");
    private static final String ALL = "any any any>7;";
    private static final String COUNT = "0,1 any any>2;2 any any>3;3 any any>7;";
    /** What begins goes to the right, and lights the last one alone. */
    private static final String WAVE = "0 1 any>1;1 any end>7;1 any any>2;";
    /** Keeper 0 counts six breaths, keeper 1 how often; which left one lights keeper 1 is told behind it. */
    private static final String CLOCK = "1 end any>2;2 end any>3;3 end any>4;4 end any>5;5 end any>6;6 end any>1;"
        + "0 6 any>1;1 6 any>2;2 6 any>3;3 6 any>4;";

    public static void main(String[] args) {
        fires();
        longest();
        works();
        soon();
        used();
        two();
        deafened();
        ring();
        trees();
        picture();
        mark();
        stir();
        crowd();
        begun();
        CHECK.finish();
    }

    private static BeaconWall with(String page) {
        BeaconWall x = new BeaconWall();
        Check.feed(x, page);
        x.text(0);
        return x;
    }

    private static void fires() {
        BeaconWall x = with(WAVE);
        CHECK.due("fires(1, 0, 0)", x.fires(1, 0, 0), 1);
        CHECK.due("fires(1, 0, 1)", x.fires(1, 0, 1), 1);
        CHECK.due("fires(1, 0, 2)", x.fires(1, 0, 2), -1);
        CHECK.due("fires(32, 0, 0)", x.fires(32, 0, 0), 32);
        CHECK.due("fires(32, 0, 1)", x.fires(32, 0, 1), 1);
        CHECK.due("fires(32, 0, 2)", x.fires(32, 0, 2), 0);
        CHECK.due("fires(32, 31, 0)", x.fires(32, 31, 0), 1);
        CHECK.due("fires(5, 2, 0)", x.fires(5, 2, 0), 3);
        CHECK.due("fires(5, 5, 0)", x.fires(5, 5, 0), -1);
        CHECK.due("fires(5, -1, 0)", x.fires(5, -1, 0), -1);
        CHECK.due("fires(0, 0, 1)", x.fires(0, 0, 1), -1);
        CHECK.due("fires(33, 0, 1)", x.fires(33, 0, 1), -1);
        CHECK.due("fires(5, 0, 3)", x.fires(5, 0, 3), -1);
        CHECK.due("fires(5, 0, -1)", x.fires(5, 0, -1), -1);
        CHECK.due("the wall is not asked", x.look(0), 0);
        x = with("1 any any>7;0 7 any>7;");
        CHECK.due("the least not lit", x.fires(3, 0, 2), 1);
        x = new BeaconWall();
        CHECK.due("no fire", x.fires(3, 1, 0), -1);
        CHECK.due("no fire: none lit", x.fires(3, 1, 1), 0);
        CHECK.due("no fire: the least", x.fires(3, 1, 2), 0);
    }

    private static void longest() {
        CHECK.due("fire at 25", with(CLOCK + "4 1 any>7;").fires(2, 0, 0), 25);
        CHECK.due("fire at 3 n + 20", with(CLOCK + "4 2 any>7;").fires(2, 0, 0), 26);
        CHECK.due("fire a breath later", with(CLOCK + "4 3 any>7;").fires(2, 0, 0), -1);
        BeaconWall x = with(CLOCK + "4 3 any>7;");
        CHECK.due("as it is then", x.picture(2, 0, 27, 0), x.picture(2, 0, 26, 0));
        CHECK.due("as it is then", x.picture(2, 0, 116, 0), 3);
        x = with(CLOCK + "4 2 any>5;");
        CHECK.due("mark at the last breath", x.mark(2, 0, 5, 1), 26);
        CHECK.due("crowd at the last breath", x.crowd(2, 0, 5, 2), 2);
        CHECK.due("used at the last breath", x.used(2, 0), 11);
        x = with(CLOCK + "4 3 any>5;");
        CHECK.due("mark a breath later", x.mark(2, 0, 5, 1), -1);
        CHECK.due("crowd a breath later", x.crowd(2, 0, 5, 2), 1);
        CHECK.due("used a breath later", x.used(2, 1), 10);
        Check.feed(x, "keeper 1 below 0;");
        x.text(5);
        CHECK.due("a tree: a breath too late", x.trees(0), -1);
        x = with(CLOCK + "4 2 any>7;");
        Check.feed(x, "keeper 1 below 0;");
        x.text(5);
        CHECK.due("a tree: 3 m + 23", x.trees(0), 26);
        x = with(CLOCK + "4 5 any>7;");
        CHECK.due("deafened: 3 n + 20", x.deafened(3, 2, 1), 29);
        x = with(CLOCK + "4 6 any>7;");
        CHECK.due("deafened: a breath too late", x.deafened(3, 2, 1), -1);
    }

    private static void works() {
        BeaconWall x = with(WAVE);
        CHECK.due("works(1, 0)", x.works(1, 0), -1);
        CHECK.due("works(1, 1)", x.works(1, 1), -1);
        CHECK.due("works(1, 2)", x.works(1, 2), -1);
        CHECK.due("works(24, 0)", x.works(24, 0), 2);
        CHECK.due("works(24, 1)", x.works(24, 1), 2);
        CHECK.due("works(24, 2)", x.works(24, 2), 0);
        CHECK.due("works(24, 3)", x.works(24, 3), -1);
        CHECK.due("works(25, 0)", x.works(25, 0), -1);
        CHECK.due("works(0, 0)", x.works(0, 0), -1);
        x = with(COUNT);
        CHECK.due("all to 24", x.works(24, 0), -1);
        x = with("0 0 0>0;" + ALL);
        CHECK.due("the first is 4", x.works(24, 0), 4);
        CHECK.due("a fire behind 1", x.works(24, 1), 1);
        CHECK.due("keeper 2 is not lit", x.works(24, 2), 2);
    }

    private static void soon() {
        BeaconWall x = with(WAVE);
        CHECK.due("soon(5, 0, 0)", x.soon(5, 0, 0), 8);
        CHECK.due("soon(5, 1, 0)", x.soon(5, 1, 0), 7);
        CHECK.due("soon(5, 2, 0)", x.soon(5, 2, 0), 6);
        CHECK.due("soon(5, 3, 0)", x.soon(5, 3, 0), 7);
        CHECK.due("soon(32, 31, 0)", x.soon(32, 31, 0), 62);
        CHECK.due("soon(5, 0, 1)", x.soon(5, 0, 1), -3);
        CHECK.due("soon(1, 0, 1)", x.soon(1, 0, 1), 1);
        CHECK.due("soon(5, 5, 0)", x.soon(5, 5, 0), -100);
        CHECK.due("soon(33, 0, 0)", x.soon(33, 0, 0), -100);
        CHECK.due("soon(5, 0, 2)", x.soon(5, 0, 2), -100);
        CHECK.due("no fire", new BeaconWall().soon(5, 0, 1), -100);
    }

    private static void used() {
        BeaconWall x = with(WAVE + "4 any any>5;");
        CHECK.due("used(1, 0)", x.used(1, 0), 1);
        CHECK.due("used(1, 1)", x.used(1, 1), 0);
        CHECK.due("used(1, 2)", x.used(1, 2), 2 + 128);
        CHECK.due("used(24, 0)", x.used(24, 0), 3);
        CHECK.due("used(24, 1)", x.used(24, 1), 3);
        CHECK.due("used(24, 2)", x.used(24, 2), 1 + 2 + 4 + 128);
        CHECK.due("used(25, 0)", x.used(25, 0), -1);
        CHECK.due("used(0, 0)", x.used(0, 0), -1);
        CHECK.due("used(2, 3)", x.used(2, 3), -1);
        x = with("1 any any>same;");
        CHECK.due("one that says same decides", x.used(3, 0), 1);
        CHECK.due("none does not", x.used(3, 1), -1);
    }

    private static void two() {
        BeaconWall x = with(COUNT);
        CHECK.due("both at first", x.two(24, 0), -1);
        CHECK.due("one breath later", x.two(24, 1), 2);
        CHECK.due("two breaths later", x.two(24, 2), 2);
        CHECK.due("a fire is lit then", x.two(24, 3), -1);
        CHECK.due("a fire is lit then", x.two(24, 40), -1);
        CHECK.due("two(1, 0)", x.two(1, 1), -1);
        CHECK.due("two(25, 1)", x.two(25, 1), -1);
        CHECK.due("two(24, 41)", x.two(24, 41), -1);
        CHECK.due("two(24, -1)", x.two(24, -1), -1);
        x = with("1 end 1>7;1 1 end>7;");
        CHECK.due("two beside one another", x.two(2, 0), -1);
        CHECK.due("three are not", x.two(3, 0), 3);
        CHECK.due("ahead of the last breath", x.two(2, 25), -1);
        CHECK.due("behind the last breath", x.two(2, 26), 2);
    }

    private static void deafened() {
        BeaconWall x = with(COUNT);
        CHECK.due("the others", x.deafened(3, 1, 0), 2);
        CHECK.due("behind three", x.deafened(3, 1, 1), 3);
        CHECK.due("of 32", x.deafened(32, 0, 0), 31);
        CHECK.due("one who is deaf", x.deafened(1, 0, 0), 0);
        CHECK.due("one who is deaf", x.deafened(1, 0, 1), -1);
        CHECK.due("deafened(3, 3, 0)", x.deafened(3, 3, 0), -1);
        CHECK.due("deafened(33, 0, 0)", x.deafened(33, 0, 0), -1);
        CHECK.due("deafened(3, 0, 2)", x.deafened(3, 0, 2), -1);
        x = with("1 any any>7;0 any any>3;3 any any>7;");
        CHECK.due("they go on behind the first fire", x.deafened(4, 1, 0), 2);
        CHECK.due("in the second breath", x.deafened(4, 1, 1), 2);
        CHECK.due("k 0 has MIND 1 and keeps it", x.deafened(2, 0, 0), 1);
        CHECK.due("only those that come to be lit", x.deafened(3, 1, 0), 1);
        CHECK.due("the first such breath", x.deafened(3, 1, 1), 1);
    }

    private static void ring() {
        BeaconWall x = with("0 1 any>3;0 any 1>3;1 any any>3;3 any any>7;");
        CHECK.due("ring(3, 0, 0)", x.ring(3, 0, 0), 2);
        CHECK.due("ring(3, 2, 1)", x.ring(3, 2, 1), 3);
        CHECK.due("ring(3, 1, 2)", x.ring(3, 1, 2), -1);
        CHECK.due("ring(4, 0, 1)", x.ring(4, 0, 1), 3);
        CHECK.due("ring(4, 0, 2)", x.ring(4, 0, 2), 2);
        CHECK.due("a row is not one", x.fires(3, 0, 2), 2);
        CHECK.due("ring(33, 0, 0)", x.ring(33, 0, 0), -1);
        CHECK.due("ring(3, 3, 0)", x.ring(3, 3, 0), -1);
        CHECK.due("ring(3, 0, 3)", x.ring(3, 0, 3), -1);
        x = with("1 1 1>7;");
        CHECK.due("one sees himself", x.ring(1, 0, 0), 1);
        CHECK.due("in a row he does not", x.fires(1, 0, 0), -1);
        x = with("1 0 0>2;0 1 1>2;2 2 2>7;");
        CHECK.due("two see one another twice", x.ring(2, 1, 1), 2);
    }

    private static void trees() {
        BeaconWall x = with(COUNT);
        CHECK.due("none told: 0 alone", x.trees(1), 1);
        CHECK.tell(x, 5, "keeper 1 below 0;keeper 2 below 0;keeper 4 below 2;", 3);
        CHECK.due("trees(0)", x.trees(0), 3);
        CHECK.due("the one not told stands alone", x.trees(1), 5);
        CHECK.due("trees(2)", x.trees(2), -1);
        CHECK.due("trees(3)", x.trees(3), -1);
        CHECK.due("trees(-1)", x.trees(-1), -1);
        CHECK.tell(x, 0, "1 any any>3;0 1 end>4;0 1 any>5;3 any 5>7;0 end end>6;4 any any>3;", 6);
        CHECK.tell(x, 5, "keeper 3 below 1;keeper 1 below 0;keeper 2 below 0;", 3);
        CHECK.due("the greatest of those below", x.trees(0), 2);
        CHECK.due("one is lit", x.trees(1), 1);
        CHECK.due("0 is, 1 is not", x.trees(2), 1);
        CHECK.tell(x, 0, "1 any 0>7;0 1 end>7;0 1 any>same;0 end end>7;", 4);
        CHECK.due("0, 2 are lit", x.trees(1), 2);
        CHECK.tell(x, 5, "keeper 15 below 14;", 1);
        CHECK.due("those not told, but for one with another below", x.trees(1), 13);
        CHECK.due("0 sees NOBODY", x.trees(2), 0);
    }

    private static void picture() {
        BeaconWall x = with(WAVE);
        int[] behindTwo = {2, 2, 1, 0};
        for (int k = 0; k < 4; k++) {
            CHECK.due("picture(4, 0, 2, " + k + ")", x.picture(4, 0, 2, k), behindTwo[k]);
        }
        CHECK.due("at its beginning", x.picture(4, 3, 0, 3), 1);
        CHECK.due("behind its last breath", x.picture(4, 0, 4, 3), 7);
        CHECK.due("as it is then", x.picture(4, 0, 116, 0), 2);
        CHECK.due("picture(4, 0, 117, 0)", x.picture(4, 0, 117, 0), -1);
        CHECK.due("picture(4, 0, -1, 0)", x.picture(4, 0, -1, 0), -1);
        CHECK.due("picture(4, 0, 0, 4)", x.picture(4, 0, 0, 4), -1);
        CHECK.due("picture(4, 4, 0, 0)", x.picture(4, 4, 0, 0), -1);
        CHECK.due("picture(33, 0, 0, 0)", x.picture(33, 0, 0, 0), -1);
    }

    private static void mark() {
        BeaconWall x = with(WAVE);
        CHECK.due("mark(4, 0, 1, 0)", x.mark(4, 0, 1, 0), 0);
        CHECK.due("mark(4, 0, 1, 2)", x.mark(4, 0, 1, 2), 2);
        CHECK.due("mark(4, 0, 2, 2)", x.mark(4, 0, 2, 2), 3);
        CHECK.due("mark(4, 0, 7, 3)", x.mark(4, 0, 7, 3), 4);
        CHECK.due("mark(4, 0, 7, 2)", x.mark(4, 0, 7, 2), -1);
        CHECK.due("mark(4, 0, 8, 2)", x.mark(4, 0, 8, 2), -1);
        CHECK.due("mark(4, 0, -1, 2)", x.mark(4, 0, -1, 2), -1);
        CHECK.due("mark(4, 0, 0, 4)", x.mark(4, 0, 0, 4), -1);
        CHECK.due("mark(4, -1, 0, 0)", x.mark(4, -1, 0, 0), -1);
    }

    private static void stir() {
        BeaconWall x = with(WAVE);
        CHECK.due("stir(4, 0, 0)", x.stir(4, 0, 0), 0);
        CHECK.due("stir(4, 0, 1)", x.stir(4, 0, 1), 2);
        CHECK.due("stir(4, 0, 2)", x.stir(4, 0, 2), 1);
        CHECK.due("stir(4, 0, 3)", x.stir(4, 0, 3), -1);
        CHECK.due("stir(4, 4, 0)", x.stir(4, 4, 0), -1);
        x = with("1 end any>2;2 any any>3;0 3 any>4;0 any 3>4;3 any any>5;");
        CHECK.due("of 32 breaths four stir", x.stir(4, 0, 0), 29);
        CHECK.due("two at most", x.stir(4, 0, 1), 2);
        CHECK.due("first in the third", x.stir(4, 0, 2), 3);
        x = new BeaconWall();
        CHECK.due("none ever changes", x.stir(32, 5, 0), 116);
        CHECK.due("none ever changes", x.stir(32, 5, 1), 0);
        CHECK.due("none ever changes", x.stir(32, 5, 2), -1);
    }

    private static void crowd() {
        BeaconWall x = with(WAVE);
        int[][] due = {{3, 0, 3}, {1, 0, 4}, {3, 3, 3}, {0, 0, 0}, {0, 0, 0}, {0, 0, 0}, {0, 0, 0}, {1, 4, 1}};
        for (int mind = 0; mind < 8; mind++) {
            for (int what = 0; what < 3; what++) {
                CHECK.due("crowd(4, 0, " + mind + ", " + what + ")", x.crowd(4, 0, mind, what), due[mind][what]);
            }
        }
        CHECK.due("crowd(4, 0, 8, 0)", x.crowd(4, 0, 8, 0), -1);
        CHECK.due("crowd(4, 0, -1, 0)", x.crowd(4, 0, -1, 0), -1);
        CHECK.due("crowd(4, 0, 0, 3)", x.crowd(4, 0, 0, 3), -1);
        CHECK.due("crowd(0, 0, 0, 0)", x.crowd(0, 0, 0, 0), -1);
        CHECK.due("all 32 of them", with(ALL).crowd(32, 7, 7, 2), 32);
    }

    private static void begun() {
        BeaconWall x = with("1 0 end>7;0 end 1>7;1 end 0>2;0 1 end>2;2 any any>7;");
        CHECK.due("begun(2, 0)", x.begun(2, 0), 2);
        CHECK.due("begun(2, 1)", x.begun(2, 1), -1);
        CHECK.due("begun(2, 2)", x.begun(2, 2), 1);
        CHECK.due("begun(1, 0)", x.begun(1, 0), 0);
        CHECK.due("begun(1, 1)", x.begun(1, 1), 0);
        CHECK.due("begun(1, 2)", x.begun(1, 2), -1);
        CHECK.due("begun(0, 0)", x.begun(0, 0), -1);
        CHECK.due("begun(33, 0)", x.begun(33, 0), -1);
        CHECK.due("begun(2, 3)", x.begun(2, 3), -1);
        x = with("1 end any>6;" + ALL);
        CHECK.due("all but the first", x.begun(32, 0), 31);
        CHECK.due("the first", x.begun(32, 1), 0);
        CHECK.due("of several the least", x.begun(32, 2), 1);
    }
}
