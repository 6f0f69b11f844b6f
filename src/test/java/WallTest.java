/** Promises 1 to 4, 9, 11, 28, 29 and 42 to 44: the wall as it stands and goes on. */
public final class WallTest {
    private static final Check CHECK = new Check("WallTest");

    public static void main(String[] args) {
        newObject();
        build();
        acts();
        sight();
        breathsAllAtOnce();
        late();
        deafAndLit();
        plan();
        firstFire();
        fullLog();
        lastBreath();
        undo();
        whatForgets();
        image();
        comesRound();
        hearing();
        CHECK.finish();
    }

    private static void newObject() {
        BeaconWall x = new BeaconWall();
        for (int what = 0; what <= 15; what++) {
            CHECK.due("look(" + what + ")", x.look(what), what == 4 ? -1 : 0);
        }
        CHECK.due("look(16)", x.look(16), -1);
        CHECK.due("look(-1)", x.look(-1), -1);
        CHECK.due("undo()", x.undo(), false);
        CHECK.due("image(false)", x.image(false), false);
        CHECK.due("log(0, 0)", x.log(0, 0), -1);
        CHECK.due("NONE", BeaconWall.NONE, -1);
    }

    private static void build() {
        BeaconWall x = new BeaconWall();
        CHECK.due("wall(32)", x.wall(32, true), true);
        CHECK.due("look(0)", x.look(0), 32);
        CHECK.due("look(1)", x.look(1), 1);
        CHECK.due("wall(33)", x.wall(33, false), false);
        CHECK.due("wall(-1)", x.wall(-1, false), false);
        CHECK.due("nothing changed", x.look(0) + x.look(1), 33);
        x.act(0, 31, 7);
        x.act(1, 31, 1);
        x.act(2, 31, 1);
        x.act(3, 31, 2);
        x.breaths(2);
        CHECK.due("lit", x.look(6), 1);
        CHECK.due("wall(32) again", x.wall(32, false), true);
        for (int what = 0; what <= 4; what++) {
            CHECK.due("of(31, " + what + ")", x.of(31, what), 0);
        }
        CHECK.due("BREATH", x.look(2), 0);
        CHECK.due("ASKED", x.look(3), 0);
        CHECK.due("FIRST", x.look(4), -1);
        CHECK.due("TOGETHER", x.look(5), 0);
        CHECK.due("THE LOG stays", x.look(7), 5);
        CHECK.due("nothing to undo", x.undo(), false);
        CHECK.due("wall(0)", x.wall(0, true), true);
        CHECK.due("ROUND of none", x.look(1), 1);
        CHECK.due("breaths of none", x.breaths(60), 0);
        CHECK.due("BREATH", x.look(2), 60);
    }

    private static void acts() {
        BeaconWall x = new BeaconWall();
        x.wall(3, false);
        CHECK.due("tell 8", x.act(0, 0, 8), false);
        CHECK.due("tell -1", x.act(0, 0, -1), false);
        CHECK.due("deaf 2", x.act(1, 0, 2), false);
        CHECK.due("late -1", x.act(2, 0, -1), false);
        CHECK.due("gate 4", x.act(3, 0, 4), false);
        CHECK.due("what 4", x.act(4, 0, 0), false);
        CHECK.due("what -1", x.act(-1, 0, 0), false);
        CHECK.due("keeper 3", x.act(0, 3, 0), false);
        CHECK.due("keeper -1", x.act(0, -1, 0), false);
        CHECK.due("nothing logged", x.look(7), 0);
        CHECK.due("nothing to undo", x.look(15), 0);
        x.breaths(1);
        CHECK.due("tell", x.act(0, 2, 5), true);
        CHECK.due("deaf", x.act(1, 1, 1), true);
        CHECK.due("wake", x.act(1, 1, 0), true);
        CHECK.due("late", x.act(2, 0, 1), true);
        CHECK.due("soon", x.act(2, 0, 0), true);
        CHECK.due("the gate of a row's last", x.act(3, 2, 3), true);
        CHECK.due("so already", x.act(3, 2, 3), true);
        int[][] lines = {{1, 0, 2, 5}, {1, 1, 1, 0}, {1, 2, 1, 0}, {1, 3, 0, 0}, {1, 4, 0, 0}, {1, 5, 2, 3}, {1, 5, 2, 3}};
        for (int i = 0; i < lines.length; i++) {
            for (int what = 0; what < 4; what++) {
                CHECK.due("log(" + i + ", " + what + ")", x.log(i, what), lines[i][what]);
            }
        }
        CHECK.due("log(7, 0)", x.log(7, 0), -1);
        CHECK.due("log(-1, 0)", x.log(-1, 0), -1);
        CHECK.due("log(0, 4)", x.log(0, 4), -1);
        CHECK.due("log(0, -1)", x.log(0, -1), -1);
        CHECK.due("of(2, 4)", x.of(2, 4), 3);
        CHECK.due("WAS is not told", x.of(2, 1), 0);
    }

    private static void sight() {
        BeaconWall x = new BeaconWall();
        x.wall(3, false);
        x.act(0, 0, 1);
        x.act(0, 1, 2);
        x.act(0, 2, 3);
        CHECK.due("left of the first", x.of(0, 5), 8);
        CHECK.due("right of the first", x.of(0, 6), 2);
        CHECK.due("right of the last", x.of(2, 6), 8);
        x.act(3, 0, 1);
        CHECK.due("gate 1: the left one does not see", x.of(0, 6), 8);
        CHECK.due("gate 1: the right one sees", x.of(1, 5), 1);
        x.act(3, 0, 2);
        CHECK.due("gate 2: the left one sees", x.of(0, 6), 2);
        CHECK.due("gate 2: the right one does not see", x.of(1, 5), 8);
        x.act(3, 0, 3);
        CHECK.due("gate 3", x.of(0, 6) + x.of(1, 5), 16);
        CHECK.due("the other gate is open", x.of(1, 6), 3);
        CHECK.due("of(3, 0)", x.of(3, 0), -1);
        CHECK.due("of(-1, 0)", x.of(-1, 0), -1);
        CHECK.due("of(0, 7)", x.of(0, 7), -1);
        CHECK.due("of(0, -1)", x.of(0, -1), -1);
        x.wall(3, true);
        x.act(0, 0, 1);
        x.act(0, 2, 3);
        CHECK.due("ring, left of the first", x.of(0, 5), 3);
        CHECK.due("ring, right of the last", x.of(2, 6), 1);
        x.act(3, 2, 2);
        CHECK.due("the gate behind the last", x.of(0, 5), 8);
        CHECK.due("the last one sees", x.of(2, 6), 1);
        x.wall(1, true);
        x.act(0, 0, 4);
        CHECK.due("a ring of one sees himself", x.of(0, 5), 4);
        CHECK.due("a ring of one sees himself", x.of(0, 6), 4);
        x.act(3, 0, 1);
        CHECK.due("not to the right", x.of(0, 6), 8);
        CHECK.due("but to the left", x.of(0, 5), 4);
        x.act(2, 0, 1);
        CHECK.due("late: his own WAS", x.of(0, 5), 0);
    }

    private static void breathsAllAtOnce() {
        BeaconWall x = new BeaconWall();
        CHECK.tell(x, 0, "0 1 any>1;1 0,end any>2;2 any any>same;", 3);
        x.wall(4, false);
        x.act(0, 0, 1);
        CHECK.due("no fire", x.breaths(1), 0);
        // Keeper 0 becomes 2, keeper 1 sees the 1 of ahead of it; 2 and 3 see 0 and no rule decides.
        int[] minds = {2, 1, 0, 0};
        for (int i = 0; i < 4; i++) {
            CHECK.due("MIND of " + i, x.of(i, 0), minds[i]);
            CHECK.due("WAS of " + i, x.of(i, 1), i == 0 ? 1 : 0);
        }
        CHECK.due("ASKED", x.look(3), 2);
        CHECK.due("BREATH", x.look(2), 1);
        x.breaths(1);
        // Keeper 0 stays by a rule, 1 sees a 2 and no rule decides, 2 becomes 1.
        CHECK.due("ASKED", x.look(3), 4);
        CHECK.due("MIND of 2", x.of(2, 0), 1);
        CHECK.due("breaths(0)", x.breaths(0), -1);
        CHECK.due("breaths(61)", x.breaths(61), -1);
        CHECK.due("breaths(-1)", x.breaths(-1), -1);
        CHECK.due("nothing done", x.look(2), 2);
    }

    private static void late() {
        BeaconWall x = new BeaconWall();
        CHECK.tell(x, 0, "0 1 any>1;", 1);
        x.wall(3, false);
        x.act(2, 1, 1);
        x.act(0, 0, 1);
        x.breaths(1);
        CHECK.due("he sees a breath late", x.of(1, 0), 0);
        CHECK.due("what he sees is WAS", x.of(1, 5), 1);
        x.breaths(1);
        CHECK.due("now he has seen", x.of(1, 0), 1);
        CHECK.due("the one behind him has not", x.of(2, 0), 0);
        x.act(0, 0, 3);
        CHECK.due("WAS of one told", x.of(0, 1), 1);
        x.breaths(1);
        CHECK.due("WAS is the MIND told", x.of(0, 1), 3);
        CHECK.due("and the third", x.of(2, 0), 1);
    }

    private static void deafAndLit() {
        BeaconWall x = new BeaconWall();
        CHECK.tell(x, 0, "any any any>2;", 1);
        x.wall(3, false);
        x.act(1, 0, 1);
        x.act(0, 0, 5);
        x.act(0, 1, 7);
        CHECK.due("one lit by hand", x.look(6), 1);
        CHECK.due("FIRST not yet", x.look(4), -1);
        CHECK.due("breaths", x.breaths(1), 1);
        CHECK.due("deaf", x.of(0, 0), 5);
        CHECK.due("deaf: WAS goes on", x.of(0, 1), 5);
        CHECK.due("lit stays", x.of(1, 0), 7);
        CHECK.due("the third", x.of(2, 0), 2);
        CHECK.due("ASKED once", x.look(3), 1);
        CHECK.due("FIRST", x.look(4), 0);
        x.act(0, 1, 3);
        CHECK.due("a fire put out by hand", x.look(6), 0);
        x.act(1, 0, 0);
        x.breaths(1);
        CHECK.due("awake", x.of(0, 0), 2);
        CHECK.due("FIRST stays", x.look(4), 0);
        CHECK.due("TOGETHER stays", x.look(5), 1);
    }

    private static void plan() {
        BeaconWall x = new BeaconWall();
        CHECK.tell(x, 0, "0 1 any>1;0 any 2>2;", 2);
        CHECK.tell(x, 4, "at 1 tell 0 1;at 1 tell 2 2;at 1 deaf 1;at 2 wake 1;at 1 tell 5 7;at 3 late 2;at 3 soon 2;"
            + "at 3 gate 1 3;at 0 tell 0 0;", 9);
        x.wall(3, false);
        x.breaths(1);
        CHECK.due("told though it was so", x.look(7), 1);
        CHECK.due("at BREATH", x.log(0, 0), 0);
        x.breaths(1);
        CHECK.due("told ahead of the breath", x.of(0, 0), 1);
        CHECK.due("deaf ahead of it", x.of(1, 0), 0);
        CHECK.due("WAS is of behind the plan", x.of(2, 1), 2);
        CHECK.due("who is not there is not logged", x.look(7), 4);
        CHECK.due("line by line", x.log(3, 1), 1);
        x.breaths(1);
        CHECK.due("the first rule that fits", x.of(1, 0), 1);
        x.breaths(1);
        int[][] lines = {{2, 2, 1, 0}, {3, 3, 2, 0}, {3, 4, 2, 0}, {3, 5, 1, 3}};
        for (int i = 0; i < 4; i++) {
            for (int what = 0; what < 4; what++) {
                CHECK.due("log(" + (4 + i) + ", " + what + ")", x.log(4 + i, what), lines[i][what]);
            }
        }
        CHECK.due("LATE 0 again", x.of(2, 3), 0);
        CHECK.due("GATE 1", x.of(1, 4), 3);
        CHECK.due("undo the BREATH with its PLAN", x.undo(), true);
        CHECK.due("GATE 1", x.of(1, 4), 0);
        CHECK.due("THE LOG, too", x.look(7), 5);
    }

    private static void firstFire() {
        BeaconWall x = new BeaconWall();
        CHECK.tell(x, 0, "1 any any>7;", 1);
        x.wall(5, false);
        x.breaths(3);
        x.act(0, 4, 1);
        x.act(0, 2, 1);
        CHECK.due("breaths", x.breaths(1), 2);
        CHECK.due("FIRST", x.look(4), 3);
        CHECK.due("TOGETHER", x.look(5), 2);
        CHECK.due("lines", x.look(7), 3);
        int[] line = {3, 6, 2, 2};
        for (int what = 0; what < 4; what++) {
            CHECK.due("log(2, " + what + ")", x.log(2, what), line[what]);
        }
        x.act(0, 0, 1);
        CHECK.due("breaths", x.breaths(1), 3);
        CHECK.due("FIRST stays", x.look(4), 3);
        CHECK.due("no second line", x.look(7), 4);
    }

    private static void fullLog() {
        BeaconWall x = new BeaconWall();
        x.wall(2, false);
        for (int i = 0; i < 149; i++) {
            x.act(0, 0, i % 7);
        }
        CHECK.due("149 lines", x.look(7), 149);
        x.act(0, 0, 7);
        CHECK.due("150 lines", x.look(7), 150);
        CHECK.due("told", x.act(0, 1, 5), true);
        CHECK.due("no more then", x.look(7), 150);
        CHECK.due("but it is so", x.of(1, 0), 5);
        x.breaths(1);
        CHECK.due("FIRST", x.look(4), 0);
        CHECK.due("the last line", x.log(149, 3), 7);
        CHECK.due("log(150, 0)", x.log(150, 0), -1);
        x.undo();
        x.undo();
        CHECK.due("still 150", x.look(7), 150);
        x.undo();
        CHECK.due("149 again", x.look(7), 149);
        x.act(3, 1, 3);
        CHECK.due("the new last line", x.log(149, 1), 5);
    }

    private static void lastBreath() {
        BeaconWall x = new BeaconWall();
        for (int i = 0; i < 166; i++) {
            x.breaths(60);
        }
        CHECK.due("BREATH", x.look(2), 9960);
        CHECK.due("40 more are too many", x.breaths(40), -1);
        CHECK.due("nothing done", x.look(2), 9960);
        CHECK.due("39 more", x.breaths(39), 0);
        CHECK.due("BREATH", x.look(2), 9999);
        CHECK.due("one more", x.breaths(1), -1);
        x.undo();
        CHECK.due("one more", x.breaths(1), 0);
    }

    private static void undo() {
        BeaconWall x = new BeaconWall();
        CHECK.tell(x, 0, "any any any>7;", 1);
        x.wall(4, true);
        for (int i = 0; i < 8; i++) {
            x.act(0, 0, i % 7);
        }
        CHECK.due("6 are kept", x.look(15), 6);
        for (int i = 0; i < 6; i++) {
            CHECK.due("undo", x.undo(), true);
        }
        CHECK.due("no seventh", x.undo(), false);
        CHECK.due("MIND", x.of(0, 0), 1);
        CHECK.due("lines", x.look(7), 2);
        x.act(1, 1, 1);
        x.act(2, 2, 1);
        x.act(3, 3, 2);
        CHECK.due("breaths", x.breaths(1), 3);
        CHECK.due("ASKED", x.look(3), 3);
        x.undo();
        CHECK.due("fires", x.look(6), 0);
        CHECK.due("ASKED", x.look(3), 0);
        CHECK.due("FIRST", x.look(4), -1);
        CHECK.due("TOGETHER", x.look(5), 0);
        CHECK.due("BREATH", x.look(2), 0);
        x.undo();
        CHECK.due("GATE", x.of(3, 4), 0);
        CHECK.due("LATE still", x.of(2, 3), 1);
        x.undo();
        CHECK.due("LATE", x.of(2, 3), 0);
        x.undo();
        CHECK.due("DEAF", x.of(1, 2), 0);
        CHECK.due("none more", x.undo(), false);
        x.breaths(9);
        CHECK.due("each breath by itself", x.look(15), 6);
        x.undo();
        CHECK.due("BREATH", x.look(2), 8);
    }

    private static void whatForgets() {
        BeaconWall x = new BeaconWall();
        x.wall(1, false);
        x.act(0, 0, 1);
        CHECK.tell(x, 5, "keeper 1 below 0;", 1);
        CHECK.refused(x, 0, "any", 1, 3);
        CHECK.refused(x, 4, "any", 1, 0);
        x.keeps();
        x.goes(0, 0, 0, 1);
        x.wall(40, false);
        x.image(true);
        CHECK.due("none of these forgets", x.look(15), 1);
        CHECK.tell(x, 4, "", 0);
        CHECK.due("a PLAN told forgets", x.look(15), 0);
        x.act(0, 0, 1);
        CHECK.tell(x, 3, "", 0);
        CHECK.due("a PAGE told forgets", x.undo(), false);
        x.act(0, 0, 1);
        x.wall(1, false);
        CHECK.due("wall() forgets", x.undo(), false);
        x.act(0, 0, 1);
        x.image(false);
        CHECK.due("gone back: nothing then", x.undo(), false);
    }

    private static void image() {
        BeaconWall x = new BeaconWall();
        CHECK.tell(x, 0, "1 any any>2;", 1);
        x.keeps();
        CHECK.tell(x, 1, "2 any any>3;", 1);
        CHECK.tell(x, 4, "at 5 deaf 0;", 1);
        CHECK.tell(x, 5, "keeper 1 below 0;", 1);
        x.goes(3, 0, 1, 1);
        x.wall(2, true);
        x.act(0, 0, 1);
        x.breaths(1);
        CHECK.due("taken", x.image(true), true);
        for (int i = 0; i < 2; i++) {
            CHECK.tell(x, 0, "any any any>7;1 1 1>1;", 2);
            CHECK.tell(x, 1, "", 0);
            x.keeps();
            CHECK.tell(x, 4, "", 0);
            CHECK.tell(x, 5, "", 0);
            x.goes(-1, 0, 0, 0);
            x.wall(5, false);
            x.act(0, 1, 1);
            x.breaths(1);
            CHECK.due("gone back to", x.image(false), true);
            CHECK.due("KEEPERS", x.look(0), 2);
            CHECK.due("ROUND", x.look(1), 1);
            CHECK.due("BREATH", x.look(2), 1);
            CHECK.due("ASKED", x.look(3), 1);
            CHECK.due("FIRST", x.look(4), -1);
            CHECK.due("lines of THE LOG", x.look(7), 1);
            CHECK.due("RULES", x.look(8) + 10 * x.look(9), 11);
            CHECK.due("PLAN", x.look(12), 1);
            CHECK.due("TREE", x.look(13), 1);
            CHECK.due("RULES of THE OTHER BOOK", x.look(14), 1);
            CHECK.due("MIND", x.of(0, 0), 2);
            CHECK.due("WAS", x.of(0, 1), 1);
            CHECK.due("says", x.says(1, 1, 1, 0), 2);
            CHECK.due("THE OTHER BOOK is of page 0 alone", x.alike(1, 1), 2);
            CHECK.due("MARKS", x.goes(1, 1, 1, 1), 2);
        }
    }

    private static void comesRound() {
        BeaconWall x = new BeaconWall();
        CHECK.due("no KEEPERS", x.round(0), 1);
        CHECK.due("no KEEPERS", x.round(1), 1);
        x.wall(3, false);
        CHECK.due("all at rest", x.round(0), 1);
        x.act(0, 0, 2);
        CHECK.due("WAS is other at first", x.round(0), 2);
        CHECK.due("and then one breath long", x.round(1), 1);
        CHECK.due("round(2)", x.round(2), -1);
        CHECK.due("round(-1)", x.round(-1), -1);
        CHECK.tell(x, 0, "any 1 any>1;1 any any>0;", 2);
        x.wall(7, true);
        x.act(0, 0, 1);
        CHECK.due("a mark round a ring", x.round(0), 8);
        CHECK.due("as long as the ring", x.round(1), 7);
        x.act(1, 3, 1);
        CHECK.due("a deaf one stops it", x.round(1), 1);
        x.act(1, 3, 0);
        CHECK.due("nothing of it stays", x.of(0, 0), 1);
        CHECK.due("nothing of it stays", x.look(3), 0);
        x.act(2, 3, 1);
        CHECK.due("a late one makes it longer", x.round(1), 8);
        x.act(2, 3, 0);
        x.act(3, 2, 2);
        CHECK.due("a gate stops it", x.round(1), 1);
        CHECK.tell(x, 4, "at 0 tell 0 0;", 1);
        x.act(3, 2, 0);
        CHECK.due("no PLAN", x.round(1), 7);
        // Exclusive or of left and (own or right): on a ring of 32 far more than 2000 breaths go by.
        CHECK.tell(x, 0, "0,1 1 1>0;0 1 0>1;1 1 0>0;0,1 0 1>1;1 0 0>1;", 5);
        x.wall(32, true);
        x.act(0, 9, 1);
        CHECK.due("not within 2000", x.round(0), -1);
        CHECK.due("not within 2000", x.round(1), -1);
        CHECK.tell(x, 0, "0 any any>1;1 any any>2;2 any any>3;3 any any>4;4 any any>5;5 any any>6;6 any any>0;", 7);
        x.wall(2, false);
        CHECK.due("WAS of the beginning does not come again", x.round(0), 8);
        CHECK.due("seven long", x.round(1), 7);
        x.breaths(1);
        CHECK.due("from its second breath on", x.round(0), 7);
        longRound();
        oneOfMany();
    }

    /** Five keepers count together: 4 times 5 times 5 times 5 times 4 breaths. */
    private static void longRound() {
        BeaconWall x = new BeaconWall();
        CHECK.tell(x, 0, "0 end any>1;1 end any>2;2 end any>6;6 end any>0;0 6 end>1;1 6 end>2;2 6 end>3;3 6 end>0;"
            + "0 6 any>1;1 6 any>2;2 6 any>3;3 6 any>4;4 6 any>6;6 any any>0;", 14);
        x.wall(5, false);
        // What the first breaths are like does not come again.
        x.breaths(3);
        CHECK.due("a breath too late", x.round(0), -1);
        CHECK.due("a breath too late", x.round(1), -1);
        x.breaths(1);
        CHECK.due("the last that is looked at", x.round(0), 2000);
        CHECK.due("the last that is looked at", x.round(1), 2000);
    }

    /** Only one of 32 keepers goes on: none may be overlooked. */
    private static void oneOfMany() {
        BeaconWall x = new BeaconWall();
        CHECK.tell(x, 0, "1 any any>2;2 any any>4;4 any any>6;6 any any>1;", 4);
        for (int i = 0; i < 32; i++) {
            x.wall(32, i % 2 == 0);
            x.act(0, i, 1);
            CHECK.due("keeper " + i + " comes round", x.round(0), 5);
            CHECK.due("keeper " + i + " comes round", x.round(1), 4);
        }
    }

    private static void hearing() {
        BeaconWall x = new BeaconWall();
        CHECK.due("no KEEPERS", x.heard(0, 0, 0), -1);
        x.wall(32, false);
        CHECK.due("to the end", x.heard(0, 31, -5), 31);
        CHECK.due("t is not asked", x.heard(31, 0, 999), 31);
        CHECK.due("himself", x.heard(5, 5, 0), 0);
        CHECK.due("known at once", x.heard(5, -1, 0), 1);
        CHECK.due("known behind 3", x.heard(5, -1, 3), 7);
        CHECK.due("known behind 200", x.heard(5, -1, 200), 32);
        CHECK.due("t 201", x.heard(5, -1, 201), -1);
        CHECK.due("t -1", x.heard(5, -1, -1), -1);
        CHECK.due("j -2", x.heard(5, -2, 0), -1);
        CHECK.due("j 32", x.heard(5, 32, 0), -1);
        CHECK.due("k 32", x.heard(32, 0, 0), -1);
        CHECK.due("k -1", x.heard(-1, 0, 0), -1);
        for (int i = 0; i < 32; i++) {
            x.act(2, i, 1);
        }
        CHECK.due("all late", x.heard(0, 31, 0), 62);
        x.act(1, 16, 1);
        CHECK.due("a deaf one between", x.heard(0, 31, 0), -1);
        CHECK.due("up to him", x.heard(0, -1, 200), 16);
        CHECK.due("a deaf one tells", x.heard(16, 0, 0), 32);
        CHECK.due("he himself", x.heard(16, 16, 0), 0);
        CHECK.due("a deaf one hears not", x.heard(15, 16, 0), -1);
        x.wall(6, true);
        CHECK.due("the short way round", x.heard(0, 4, 0), 2);
        x.act(2, 5, 1);
        CHECK.due("by the late one", x.heard(0, 4, 0), 3);
        x.act(3, 5, 1);
        CHECK.due("gate 1: the last does not see the first", x.heard(0, 5, 0), 6);
        CHECK.due("the first sees the last", x.heard(5, 0, 0), 1);
    }
}
