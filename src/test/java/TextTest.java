/** Promises 5 to 8 (the TAPE, the texts, their FAULTS) and 10, 23, 31, 32, 41 (the book as it is read). */
public final class TextTest {
    private static final Check CHECK = new Check("TextTest");
    private static final String RULE = "any 0 0 > 1;";

    public static void main(String[] args) {
        tape();
        pages();
        pageFaults();
        tooManyLines();
        plans();
        trees();
        fullTape();
        faultStays();
        firstThatFits();
        quiet();
        clashAndDead();
        mirrored();
        unlike();
        CHECK.finish();
    }

    private static void tape() {
        BeaconWall x = new BeaconWall();
        for (int i = 1; i <= 20; i++) {
            CHECK.due("feed " + i, x.feed(0, 0, 0, 0, 0), 20 * i);
        }
        CHECK.due("feed over 400", x.feed(0, 0, 0, 0, 0), -1);
        CHECK.due("end(401)", x.end(401), false);
        CHECK.due("end(-1)", x.end(-1), false);
        CHECK.due("end(400)", x.end(400), true);
        CHECK.due("end(381)", x.end(381), true);
        CHECK.due("feed over 400 by one", x.feed(0, 0, 0, 0, 0), -1);
        CHECK.due("end(382) of 381", x.end(382), false);
        CHECK.due("end(380)", x.end(380), true);
        CHECK.due("feed up to 400", x.feed(0, 0, 0, 0, 0), 400);
        CHECK.due("end(0)", x.end(0), true);
        CHECK.due("end(0) again", x.end(0), true);
        CHECK.due("end(1) of none", x.end(1), false);

        CHECK.due("feed", x.feed(0x616E7920, 0x616E7920, 0x616E793E, 0x373BFF00, 0x80000000), 20);
        x.end(14);
        CHECK.due("highest byte first", x.text(0), 1);
        CHECK.due("says 7", x.says(3, 3, 3, 0), 7);
        CHECK.due("the TAPE is empty then", x.end(1), false);
        x.feed(-1, -1, -1, -1, -1);
        CHECK.due("bytes above 127", x.text(1), -1);
        CHECK.due("its FAULT", x.fault(0), 1);
        CHECK.due("its place", x.fault(1), 0);
        CHECK.due("empty with a FAULT too", x.end(1), false);
        x.feed(0, 0, 0, 0, 0);
        CHECK.due("no such text", x.text(6), -1);
        CHECK.due("fault() tells 0", x.fault(0), 0);
        CHECK.due("no place", x.fault(1), -1);
        CHECK.due("empty whatever k", x.end(1), false);
        x.feed(0, 0, 0, 0, 0);
        CHECK.due("no such text", x.text(-1), -1);
        CHECK.due("empty whatever k", x.end(1), false);
    }

    private static void pages() {
        BeaconWall x = new BeaconWall();
        CHECK.tell(x, 0, "", 0);
        CHECK.tell(x, 0, " \n ", 0);
        CHECK.tell(x, 0, "0 0 0>1;", 1);
        CHECK.tell(x, 0, "0any0>same;", 1);
        CHECK.tell(x, 0, "\n0 ,1,\n2 not end ,7 not 0003 >\n0007 ; end end end > 0;", 2);
        CHECK.due("own of the group", x.says(2, 0, 8, 0), 7);
        CHECK.due("not end", x.says(2, 8, 8, 1), -1);
        CHECK.due("not 7", x.says(2, 7, 8, 1), -1);
        CHECK.due("not 3", x.says(2, 0, 3, 1), -1);
        CHECK.due("own beyond the group", x.says(3, 0, 8, 1), -1);
        CHECK.tell(x, 3, "0 0 0,0,0,0,0,0>0;not 0,1,2,3,4,5,6,7,end any any>1;", 2);
        CHECK.due("look(8)", x.look(8), 2);
        CHECK.due("look(9)", x.look(9), 0);
        CHECK.due("look(11)", x.look(11), 2);
        CHECK.tell(x, 3, "", 0);
        CHECK.due("an empty page", x.look(11), 0);
    }

    private static void pageFaults() {
        BeaconWall x = new BeaconWall();
        CHECK.tell(x, 0, "any any any > 5;", 1);
        CHECK.refused(x, 0, ";", 1, 0);
        CHECK.refused(x, 0, "0 0 > 1;", 1, 4);
        CHECK.refused(x, 0, "0 0 0 0 > 1;", 1, 6);
        CHECK.refused(x, 0, "0 0 0 , > 1;", 1, 8);
        CHECK.refused(x, 0, "0,not 1 0 0 > 1;", 1, 2);
        CHECK.refused(x, 0, "0,any 0 0 > 1;", 1, 2);
        CHECK.refused(x, 0, "not any 0 0 > 1;", 1, 4);
        CHECK.refused(x, 0, "not not 0 0 > 1;", 1, 4);
        CHECK.refused(x, 0, "any,0 0 0 > 1;", 1, 3);
        CHECK.refused(x, 0, "0 0 0 > end;", 1, 8);
        CHECK.refused(x, 0, "0 0 0 > 1,2;", 1, 9);
        CHECK.refused(x, 0, "0 0 same > 1;", 1, 4);
        CHECK.refused(x, 0, "0 0 0 > 8;", 2, 8);
        CHECK.refused(x, 0, "0 0 not 9999 > 1;", 2, 8);
        CHECK.refused(x, 0, "0 0 0,8 > 1;", 2, 6);
        CHECK.refused(x, 0, "0 0 00000 > 1;", 1, 4);
        CHECK.refused(x, 0, "0 0 anyany > 1;", 1, 4);
        CHECK.refused(x, 0, "0 0 Any > 1;", 1, 4);
        CHECK.refused(x, 0, "0 0 at > 1;", 1, 4);
        CHECK.refused(x, 0, "0 0 0 . 1;", 1, 6);
        CHECK.refused(x, 0, "0 0\t0 > 1;", 1, 3);
        CHECK.refused(x, 0, "0 0 0 > 1", 1, 9);
        CHECK.refused(x, 0, "0 0 0 > 1 \n ", 1, 12);
        CHECK.refused(x, 0, "0", 1, 1);
        CHECK.refused(x, 0, "0 0 0 > 1;;", 1, 10);
        CHECK.refused(x, 0, "0 0 0 > 1; 8 9 ?", 2, 11);
        CHECK.due("it stays as it was", x.says(0, 0, 0, 0), 5);
        CHECK.due("one rule still", x.look(8), 1);
        CHECK.due("fault(2)", x.fault(2), -1);
        CHECK.due("fault(-1)", x.fault(-1), -1);
    }

    private static void tooManyLines() {
        BeaconWall x = new BeaconWall();
        String full = RULE.repeat(24);
        CHECK.tell(x, 1, full, 24);
        CHECK.due("look(9)", x.look(9), 24);
        CHECK.refused(x, 2, full + "0 0 0 > 1;", 3, 288);
        CHECK.refused(x, 2, full + "\n not 0 0 0 > 1;", 3, 290);
        CHECK.refused(x, 2, full + "end", 3, 288);
        CHECK.refused(x, 2, full + "any", 3, 288);
        CHECK.refused(x, 2, full + "8", 2, 288);
        CHECK.refused(x, 2, full + ";", 1, 288);
        CHECK.refused(x, 2, full + "same", 1, 288);
        CHECK.due("page 2 is empty", x.look(10), 0);
        String plan = "at 0 deaf 1;".repeat(16);
        CHECK.tell(x, 4, plan, 16);
        CHECK.refused(x, 4, plan + " at", 3, 193);
        CHECK.refused(x, 4, plan + "deaf", 1, 192);
        CHECK.due("look(12)", x.look(12), 16);
        StringBuilder tree = new StringBuilder();
        for (int i = 1; i <= 15; i++) {
            tree.append("keeper ").append(i).append(" below 0;");
        }
        CHECK.tell(x, 5, tree.toString(), 15);
        CHECK.refused(x, 5, tree + "keeper 15 below 0;", 2, tree.length() + 7);
    }

    private static void plans() {
        BeaconWall x = new BeaconWall();
        CHECK.tell(x, 4, "at 0 tell 0 7;at 999 deaf 31;at 1 wake 0;at 1 late 0;at 1 soon 0;at 1 gate 0 3;", 6);
        CHECK.refused(x, 4, "at 1000 deaf 0;", 2, 3);
        CHECK.refused(x, 4, "at 1 deaf 32;", 2, 10);
        CHECK.refused(x, 4, "at 1 tell 0 8;", 2, 12);
        CHECK.refused(x, 4, "at 1 tell 0;", 1, 11);
        CHECK.refused(x, 4, "at 1 gate 0 4;", 2, 12);
        CHECK.refused(x, 4, "at 1 gate 0;", 1, 11);
        CHECK.refused(x, 4, "at 1 wake 0 0;", 1, 12);
        CHECK.refused(x, 4, "at deaf 0;", 1, 3);
        CHECK.refused(x, 4, "at 1 keeper 0;", 1, 5);
        CHECK.refused(x, 4, "at 1 0;", 1, 5);
        CHECK.refused(x, 4, "at 1", 1, 4);
        CHECK.refused(x, 4, "at 12345 deaf 0;", 1, 3);
        CHECK.due("PLAN stays", x.look(12), 6);
    }

    private static void trees() {
        BeaconWall x = new BeaconWall();
        CHECK.tell(x, 5, "keeper 15 below 14;keeper 1 below 0;", 2);
        CHECK.refused(x, 5, "keeper 0 below 0;", 2, 7);
        CHECK.refused(x, 5, "keeper 16 below 0;", 2, 7);
        CHECK.refused(x, 5, "keeper 3 below 3;", 2, 15);
        CHECK.refused(x, 5, "keeper 3 below 4;", 2, 15);
        CHECK.refused(x, 5, "keeper 3 below 99;", 2, 15);
        CHECK.refused(x, 5, "keeper 3 below 1; keeper 2 below 1; keeper 3 below 2;", 2, 43);
        CHECK.refused(x, 5, "keeper 3 under 1;", 1, 9);
        CHECK.refused(x, 5, "below 3 keeper 4;", 1, 0);
        CHECK.due("TREE stays", x.look(13), 2);
    }

    private static void fullTape() {
        BeaconWall x = new BeaconWall();
        CHECK.refused(x, 0, ";".repeat(400), 1, 0);
        CHECK.refused(x, 0, "0" + ",0".repeat(199) + ",", 1, 400);
        CHECK.tell(x, 0, "0" + ",0".repeat(196) + " 0 0>1;", 1);
        CHECK.tell(x, 0, " ".repeat(400), 0);
    }

    private static void faultStays() {
        BeaconWall x = new BeaconWall();
        CHECK.due("no text yet", x.fault(0), 0);
        CHECK.due("no place yet", x.fault(1), -1);
        x.image(true);
        CHECK.refused(x, 0, "0 8", 2, 2);
        Check.feed(x, "any");
        x.image(false);
        CHECK.due("fault() is no part of THE IMAGE", x.fault(1), 2);
        CHECK.due("nor is the TAPE", x.end(3), true);
        CHECK.tell(x, 0, " any any>1;", -1);
        CHECK.tell(x, 0, RULE, 1);
        CHECK.due("without one", x.fault(0), 0);
        CHECK.due("without one", x.fault(1), -1);
    }

    private static void firstThatFits() {
        BeaconWall x = new BeaconWall();
        CHECK.due("no rule", x.says(3, 1, 8, 0), 3);
        CHECK.due("no rule", x.says(3, 1, 8, 1), -1);
        CHECK.tell(x, 1, "3 1 any > 4; 3 any any > same; any any any > 6;", 3);
        CHECK.tell(x, 0, "3 2 end > 5;", 1);
        CHECK.due("rule 0", x.says(3, 2, 8, 0), 5);
        CHECK.due("rule 0", x.says(3, 2, 8, 1), 0);
        CHECK.due("rule 24", x.says(3, 1, 8, 0), 4);
        CHECK.due("rule 24", x.says(3, 1, 8, 1), 24);
        CHECK.due("rule 25 says same", x.says(3, 0, 0, 0), 3);
        CHECK.due("rule 25 decides", x.says(3, 0, 0, 1), 25);
        CHECK.due("rule 26", x.says(0, 8, 8, 0), 6);
        CHECK.due("own 7", x.says(7, 8, 8, 0), 7);
        CHECK.due("own 7 asks nobody", x.says(7, 8, 8, 1), -1);
        CHECK.due("another what", x.says(3, 1, 8, 2), -1);
        CHECK.due("own -1", x.says(-1, 1, 8, 0), -1);
        CHECK.due("own 8", x.says(8, 1, 8, 0), -1);
        CHECK.due("left 9", x.says(0, 9, 8, 0), -1);
        CHECK.due("right -1", x.says(0, 0, -1, 0), -1);
        CHECK.due("keeps()", x.keeps(), 4);
        CHECK.due("look(14)", x.look(14), 4);
        CHECK.tell(x, 1, "", 0);
        CHECK.due("kept as it was", x.look(14), 4);
        CHECK.due("keeps() again", x.keeps(), 1);
    }

    private static void quiet() {
        BeaconWall x = new BeaconWall();
        CHECK.tell(x, 0, "0 0 0>1;3 end end>4;5 any any>6;6 any any>same;", 4);
        CHECK.due("quiet(0)", x.quiet(0), 255 - 1 - 32);
        CHECK.due("quiet(1)", x.quiet(1), 255 - 8 - 32);
        CHECK.due("quiet(2)", x.quiet(2), -1);
        CHECK.due("quiet(-1)", x.quiet(-1), -1);
        CHECK.tell(x, 0, "any any any>0;", 1);
        CHECK.due("7 in both", x.quiet(0), 129);
        CHECK.due("7 in both", x.quiet(1), 129);
    }

    private static void clashAndDead() {
        BeaconWall x = new BeaconWall();
        CHECK.tell(x, 0, "0 0 0>1;0 0 any>2;0 any 1>2;0 0 0>3;7 any any>4;end any any>5;", 6);
        // 0-1, 0-3, 1-3 clash; 1-2 say the same; 3 stands behind 0.
        CHECK.due("CLASH", x.rules(0), 3);
        CHECK.due("DEAD", x.rules(1), 3);
        CHECK.due("the least", x.rules(2), 3);
        CHECK.tell(x, 0, "2 any any>same;", 1);
        CHECK.tell(x, 3, "1,2 any any>2;", 1);
        CHECK.due("same says 2 there", x.rules(0), 0);
        CHECK.due("DEAD none", x.rules(1), 0);
        CHECK.due("none", x.rules(2), -1);
        CHECK.tell(x, 3, "2,3 any any>3;2 0 0>2;", 2);
        CHECK.due("same says 2 here, too", x.rules(0), 2);
        CHECK.due("the dead one", x.rules(2), 73);
        CHECK.due("another what", x.rules(5), -1);
        CHECK.due("another what", x.rules(-1), -1);
    }

    private static void mirrored() {
        BeaconWall x = new BeaconWall();
        CHECK.tell(x, 0, "0 1 any>2;0 any 1>2;", 2);
        CHECK.due("MIRRORED", x.rules(3), 1);
        CHECK.due("in none not", x.rules(4), 0);
        CHECK.tell(x, 0, "0 1 2>3;", 1);
        CHECK.due("not MIRRORED", x.rules(3), 0);
        CHECK.due("both ways round", x.rules(4), 2);
        CHECK.tell(x, 0, "0,7 1 any>3;", 1);
        CHECK.due("own 7 says 7", x.rules(4), 16);
    }

    private static void unlike() {
        BeaconWall x = new BeaconWall();
        CHECK.tell(x, 1, "0 end end>1;6 8", -1);
        CHECK.tell(x, 1, "0 end end>1;6 0 any>1;", 2);
        CHECK.tell(x, 2, "0 any end>1;7 any any>0;", 2);
        CHECK.due("1 and 2", x.unlike(1, 2, 0), 8 + 9);
        CHECK.due("the least", x.unlike(1, 2, 1), 8);
        CHECK.due("other way round", x.unlike(2, 1, 1), 8);
        CHECK.due("1 and an empty one", x.unlike(1, 0, 0), 10);
        CHECK.due("the least", x.unlike(1, 0, 1), 88);
        CHECK.due("alone as a book, though page 1 stands ahead", x.unlike(2, 3, 0), 9);
        CHECK.due("itself", x.unlike(2, 2, 0), 0);
        CHECK.due("itself", x.unlike(2, 2, 1), -1);
        CHECK.due("no page", x.unlike(4, 0, 0), -1);
        CHECK.due("no page", x.unlike(0, -1, 0), -1);
        CHECK.due("another what", x.unlike(0, 1, 2), -1);
    }
}
