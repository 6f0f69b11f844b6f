import java.util.List;

/** Promises 5 to 8, 10, 23, 31, 32 and 41, and what the terms say of THE BOOK: sentence by sentence. */
final class EdgesOfText {
    private static final int TERMS = Edge.TERMS;
    private static final int NONE = Edge.NONE;
    private static final String LINE = "0 0 0>1;";

    private final Edge edge;

    EdgesOfText(Edge edge) {
        this.edge = edge;
    }

    void all() {
        feedTakesTwentyBytes();
        feedRefusesOver400();
        endCuts();
        endRefuses();
        textTakesTheTape();
        textRefuses();
        faultOfTheLatest();
        faultOfAnotherWhat();
        bookAndRules();
        patterns();
        whatTheBookSays();
        litAsksNobody();
        pagesAsTexts();
        planAsText();
        treeAsText();
        linesAtMost();
        letters();
        digits();
        signsAndBlanks();
        firstFault();
        faultOne();
        faultTwo();
        faultThree();
        says();
        saysRefuses();
        keeps();
        quiet();
        rules();
        clash();
        dead();
        mirrored();
        unlike();
    }

    // ---- the TAPE

    private void feedTakesTwentyBytes() {
        edge.words(5, "Twenty bytes come behind the TAPE, of each number the highest first: how many it has.");
        for (int i = 0; i < 20; i++) {
            BeaconWall x = new BeaconWall();
            int[] numbers = {0x20202020, 0x20202020, 0x20202020, 0x20202020, 0x20202020};
            numbers[i / 4] |= 0xDF << 24 - 8 * (i % 4);
            edge.due("feed", x.feed(numbers[0], numbers[1], numbers[2], numbers[3], numbers[4]), 20);
            x.text(0);
            edge.due("the place of byte " + i, x.fault(1), i);
        }
        BeaconWall x = new BeaconWall();
        Check.feed(x, "any any an");
        edge.due("feed behind what was cut", x.feed(Check.word("y>5;", 0), 0x20202020, 0, 0, 0), 30);
        x.end(18);
        edge.due("the text of both", x.text(0), 1);
    }

    private void feedRefusesOver400() {
        edge.words(5, "NONE, and nothing comes, if there would be more than 400.");
        BeaconWall x = new BeaconWall();
        for (int i = 1; i <= 19; i++) {
            x.feed(0x20202020, 0x20202020, 0x20202020, 0x20202020, 0x20202020);
        }
        edge.due("feed up to 400", x.feed(0x20202020, 0x20202020, 0x20202020, 0x20202020, 0x20202020), 400);
        edge.due("feed beyond", x.feed(-1, -1, -1, -1, -1), NONE);
        edge.due("nothing came", x.end(401), false);
        edge.due("the first 381", x.end(381), true);
        edge.due("feed up to 401", x.feed(-1, -1, -1, -1, -1), NONE);
        edge.due("nothing came", x.end(382), false);
        edge.due("381 blanks", x.text(0), 0);
        edge.due("the TAPE is empty again", x.feed(0, 0, 0, 0, 0), 20);
    }

    private void endCuts() {
        edge.words(6, "The TAPE has its first n bytes alone: true;");
        BeaconWall x = new BeaconWall();
        edge.due("end(0) of an empty one", x.end(0), true);
        Check.feed(x, "any any any>5;??????");
        edge.due("end(20), all of them", x.end(20), true);
        edge.due("end(14)", x.end(14), true);
        edge.due("what stands there", x.text(0), 1);
        Check.feed(x, "??");
        edge.due("end(0)", x.end(0), true);
        edge.due("nothing stands there", x.text(0), 0);
    }

    private void endRefuses() {
        edge.words(6, "false, changing nothing, if it has not so many, or n is below 0.");
        BeaconWall x = new BeaconWall();
        edge.due("end(1) of an empty one", x.end(1), false);
        x.feed(0x20202020, 0x20202020, 0x20202020, 0x20202020, 0x2020203F);
        for (int n : Edge.beyond(0, 20)) {
            edge.due("end(" + n + ") of 20", x.end(n), false);
        }
        x.text(0);
        edge.due("all 20 are there: the last is at fault", x.fault(1), 19);
    }

    private void textTakesTheTape() {
        edge.words(7, "The TAPE, empty then (whatever k, with a FAULT too), is TEXT k: how many lines.");
        String[] texts = {LINE, LINE + LINE, "", LINE + LINE + LINE, "at 0 deaf 0;", "keeper 1 below 0;keeper 2 below 0;"};
        int[] lines = {1, 2, 0, 3, 1, 2};
        BeaconWall x = new BeaconWall();
        for (int k = 0; k <= 5; k++) {
            edge.taken(x, k, texts[k], lines[k]);
            edge.due("lines of text " + k, x.look(8 + k), lines[k]);
            edge.due("the TAPE is empty", x.end(1), false);
        }
        for (int k = -1; k <= 6; k++) {
            Check.feed(x, "?");
            edge.due("text(" + k + ") of '?'", x.text(k), NONE);
            edge.due("the TAPE is empty", x.end(1), false);
        }
        for (int k = 0; k <= 5; k++) {
            edge.due("text(" + k + ") of an empty TAPE", x.text(k), 0);
            edge.due("no lines then", x.look(8 + k), 0);
        }
    }

    private void textRefuses() {
        edge.words(7, "NONE: no such one (fault() tells 0), or a FAULT (it stays as it was).");
        for (int k : Edge.beyond(0, 5)) {
            BeaconWall x = new BeaconWall();
            Edge.tell(x, 0, "?");
            edge.due("text(" + k + ")", Edge.tell(x, k, "?"), NONE);
            edge.due("fault(0)", x.fault(0), 0);
            edge.due("fault(1)", x.fault(1), NONE);
        }
        BeaconWall x = Edge.with("any any any>5;");
        x.wall(2, false);
        Edge.tell(x, 4, "at 0 deaf 1;");
        Edge.tell(x, 5, "keeper 1 below 0;");
        for (int k = 0; k <= 5; k++) {
            // The first line is as it should be: nothing of it may come to be.
            String line = k < 4 ? "any any any>6;" : k == 4 ? "at 0 deaf 0;" : "keeper 3 below 0;";
            edge.refused(x, k, line + ";", 1, line.length());
        }
        edge.due("RULES of PAGE 0", x.look(8), 1);
        edge.due("RULES of the others", x.look(9) + x.look(10) + x.look(11), 0);
        edge.due("what THE BOOK says", x.says(0, 0, 0, 0), 5);
        edge.due("lines of PLAN", x.look(12), 1);
        edge.due("lines of TREE", x.look(13), 1);
        Edge.tell(x, 0, Edge.ALL);
        edge.due("KEEPERS 0 and 1 of TREE", x.trees(1), 2);
        x.breaths(1);
        edge.due("PLAN made 1 deaf", x.of(1, 2), 1);
        edge.due("PLAN made not 0 deaf", x.of(0, 2), 0);
    }

    private void faultOfTheLatest() {
        edge.words(8, "Of the latest text() what 0 the FAULT (0 without one), 1 its place (NONE).");
        BeaconWall x = new BeaconWall();
        edge.due("fault(0) ahead of all texts", x.fault(0), 0);
        edge.due("fault(1) ahead of all texts", x.fault(1), NONE);
        edge.refused(x, 0, "0 8", 2, 2);
        Check.feed(x, LINE);
        edge.due("feed and end change it not", x.fault(0) + 10 * x.fault(1), 22);
        x.text(1);
        edge.due("fault(0) of one without", x.fault(0), 0);
        edge.due("fault(1) of one without", x.fault(1), NONE);
        edge.refused(x, 4, "?", 1, 0);
        edge.refused(x, 0, LINE.repeat(25), 3, 192);
    }

    private void faultOfAnotherWhat() {
        edge.words(8, "NONE for another what.");
        BeaconWall x = new BeaconWall();
        Edge.tell(x, 0, "?");
        for (int what : Edge.beyond(0, 1)) {
            edge.due("fault(" + what + ")", x.fault(what), NONE);
        }
    }

    // ---- what a book is

    private void bookAndRules() {
        edge.words(TERMS, "Quotients go downwards. MINDS 0 .. 7 (0 at rest, 1 to begin, 7 his fire is lit); "
            + "what one sees left or right is a MIND or NOBODY.");
        BeaconWall x = Edge.with("0 0 0>0;7 7 7>7;0 end end>1;");
        edge.due("NOBODY is seen as 8", x.says(0, 8, 8, 0), 1);
        edge.due("no 9 is seen", x.says(0, 9, 8, 0), NONE);
        edge.words(TERMS, "THE BOOK: PAGES 0 .. 3 of 24 RULES at most (empty at first); "
            + "RULE number 24 p + i is rule i of PAGE p.");
        x = new BeaconWall();
        for (int p = 0; p < 4; p++) {
            edge.due("RULES of PAGE " + p + " at first", x.look(8 + p), 0);
            edge.due("PAGE " + p + " told", Edge.tell(x, p, LINE.repeat(23) + p + " 1 1>5;"), 24);
        }
        for (int p = 0; p < 4; p++) {
            edge.due("the last RULE of PAGE " + p, x.says(p, 1, 1, 1), 24 * p + 23);
        }
        edge.due("the first of all", x.says(0, 0, 0, 1), 0);
        for (int p = 0; p < 4; p++) {
            edge.due("the first RULE of PAGE " + p, x.says(0, 0, 0, 1), 24 * p);
            Edge.tell(x, p, "");
        }
        edge.due("none more", x.says(0, 0, 0, 1), NONE);
    }

    private void patterns() {
        edge.words(TERMS, "A RULE = P P P > M ; for own, left, right.");
        BeaconWall x = Edge.with("1 2 3>4;");
        edge.due("own 1, left 2, right 3", x.says(1, 2, 3, 0), 4);
        edge.due("own 1, left 3, right 2", x.says(1, 3, 2, 1), NONE);
        edge.due("own 2, left 1, right 3", x.says(2, 1, 3, 1), NONE);
        edge.words(TERMS, "P = any | [not] A {, A}. A = NUMBER (a MIND) | end (NOBODY). M = NUMBER (a MIND) | same.");
        x = Edge.with("any 0 not 7,end>0;0,7 end,7,end,end any>same;");
        edge.due("any, 0, not 7 nor end", x.says(6, 0, 6, 1), 0);
        edge.due("right 7 is not", x.says(6, 0, 7, 1), NONE);
        edge.due("right NOBODY is not", x.says(6, 0, 8, 1), NONE);
        edge.due("one of the group", x.says(0, 7, 0, 1), 1);
        edge.due("NOBODY of the group", x.says(0, 8, 8, 1), 1);
        edge.due("none of the group", x.says(0, 6, 8, 1), NONE);
        String nothing = "not 0,1,2,3,4,5,6,7,end";
        edge.taken(x, 0, nothing + " any any>1;any " + nothing + " any>1;any any " + nothing + ">1;", 3);
        edge.due("not any of all fits nothing", x.rules(1), 3);
        edge.refused(x, 0, "0 0 0>end;", 1, 6);
        edge.refused(x, 0, "0 0 0>any;", 1, 6);
        edge.refused(x, 0, "0 0 same>0;", 1, 4);
        edge.refused(x, 0, "not 0 0>0;", 1, 7);
        edge.words(TERMS, "(any and not: NOBODY too; own is never NOBODY.)");
        x = Edge.with("0 any 0>1;1 0 not 0>2;end any any>3;not 0,1,2,3,4,5,6,7 any any>4;");
        edge.due("any fits NOBODY", x.says(0, 8, 0, 1), 0);
        edge.due("not 0 fits NOBODY", x.says(1, 0, 8, 1), 1);
        edge.due("not 0 fits not 0", x.says(1, 0, 0, 1), NONE);
        for (int own = 2; own <= 7; own++) {
            edge.due("an own of end fits no " + own, x.says(own, 1, 1, 1), NONE);
        }
        edge.due("both are dead", x.rules(1), 2);
        edge.due("the least of them", x.rules(2), 2);
    }

    private void whatTheBookSays() {
        edge.words(TERMS, "What THE BOOK says for own, left, right: M of the RULE with the least number all three P of which fit "
            + "(same: own), own, if none fits.");
        BeaconWall x = new BeaconWall();
        Edge.tell(x, 3, "5 any any>0;");
        Edge.tell(x, 1, "5 5 any>1;5 any 5>2;5 6 6>same;");
        edge.due("two fit: the first", x.says(5, 5, 5, 0), 1);
        edge.due("the second alone of the page", x.says(5, 4, 5, 0), 2);
        edge.due("same", x.says(5, 6, 6, 0), 5);
        edge.due("by RULE 26", x.says(5, 6, 6, 1), 26);
        edge.due("the last page", x.says(5, 8, 8, 1), 72);
        edge.due("none fits: own", x.says(6, 5, 5, 0), 6);
        edge.due("none fits: no RULE", x.says(6, 5, 5, 1), NONE);
        Edge.tell(x, 0, "5 5 5>3;");
        edge.due("a page ahead", x.says(5, 5, 5, 1), 0);
    }

    private void litAsksNobody() {
        edge.words(TERMS, "A keeper whose fire is lit asks nobody: it stays 7.");
        BeaconWall x = Edge.with("any any any>0;7 any any>1;");
        edge.due("own 7", x.says(7, 0, 0, 0), 7);
        edge.due("own 7: by no RULE", x.says(7, 0, 0, 1), NONE);
        x.wall(1, false);
        x.act(0, 0, 7);
        edge.due("a breath", x.breaths(1), 1);
        edge.due("ASKED", x.look(3), 0);
    }

    // ---- texts

    private void pagesAsTexts() {
        edge.words(TERMS, "TEXTS: 0 .. 3 PAGES = {P P P > M ;}.");
        BeaconWall x = new BeaconWall();
        edge.taken(x, 0, "", 0);
        edge.taken(x, 3, "0 7 end>7;", 1);
        edge.taken(x, 3, "0 any end>0;not 7 not end 0,7>same;", 2);
        edge.refused(x, 0, ";", 1, 0);
        edge.refused(x, 0, "0 0 0>0", 1, 7);
        edge.refused(x, 0, "0 0 0>0 0;", 1, 8);
        edge.refused(x, 0, "0 0 0 0;", 1, 6);
        edge.refused(x, 0, "0 0 0>;", 1, 6);
        edge.refused(x, 0, "0 0 0,>0;", 1, 6);
        edge.refused(x, 0, ",0 0 0>0;", 1, 0);
    }

    private void planAsText() {
        edge.words(TERMS, "4 PLAN = {at BREATH (tell KEEPER MIND | deaf KEEPER | wake KEEPER | late KEEPER | soon KEEPER | "
            + "gate KEEPER N) ;} (BREATH 0 .. 999, KEEPER 0 .. 31, there or not, MIND 0 .. 7, N 0 .. 3.)");
        BeaconWall x = new BeaconWall();
        edge.taken(x, 4, "", 0);
        edge.taken(x, 4, "at 0 tell 0 0;at 999 tell 31 7;", 2);
        edge.taken(x, 4, "at 0 gate 0 0;at 999 gate 31 3;", 2);
        for (String word : List.of("deaf", "wake", "late", "soon")) {
            edge.taken(x, 4, "at 0 " + word + " 0;at 999 " + word + " 31;", 2);
            edge.refused(x, 4, "at 1000 " + word + " 0;", 2, 3);
            edge.refused(x, 4, "at 0 " + word + " 32;", 2, 10);
            edge.refused(x, 4, "at 0 " + word + " 0 0;", 1, 12);
            edge.refused(x, 4, "at 0 " + word + ";", 1, 9);
        }
        edge.refused(x, 4, "at 0 tell 32 0;", 2, 10);
        edge.refused(x, 4, "at 0 tell 0 8;", 2, 12);
        edge.refused(x, 4, "at 0 tell 0;", 1, 11);
        edge.refused(x, 4, "at 0 gate 32 0;", 2, 10);
        edge.refused(x, 4, "at 0 gate 0 4;", 2, 12);
        edge.refused(x, 4, "at 0 gate 0;", 1, 11);
        edge.refused(x, 4, "at 0 gate 0 end;", 1, 12);
        edge.refused(x, 4, "at 0 ;", 1, 5);
        edge.refused(x, 4, "at any deaf 0;", 1, 3);
        edge.refused(x, 4, "0 deaf 0;", 1, 0);
        edge.due("lines of PLAN", x.look(12), 2);
    }

    private void treeAsText() {
        edge.words(TERMS, "5 TREE = {keeper KEEPER below KEEPER ;} (1 .. 15 below 0 .. 14, a lesser one; "
            + "one line for each at most.)");
        BeaconWall x = new BeaconWall();
        edge.taken(x, 5, "", 0);
        edge.taken(x, 5, "keeper 1 below 0;", 1);
        edge.taken(x, 5, "keeper 15 below 14;keeper 14 below 0;", 2);
        edge.refused(x, 5, "keeper 0 below 0;", 2, 7);
        edge.refused(x, 5, "keeper 16 below 0;", 2, 7);
        edge.refused(x, 5, "keeper 15 below 15;", 2, 16);
        edge.refused(x, 5, "keeper 1 below 1;", 2, 15);
        edge.refused(x, 5, "keeper 7 below 8;", 2, 15);
        edge.refused(x, 5, "keeper 1 below 0;keeper 1 below 0;", 2, 24);
        edge.refused(x, 5, "keeper 1 below;", 1, 14);
        edge.refused(x, 5, "keeper 1 0;", 1, 9);
        edge.refused(x, 5, "keeper below 0;", 1, 7);
        edge.due("lines of TREE", x.look(13), 2);
    }

    private void linesAtMost() {
        edge.words(TERMS, "Of PAGES 24, of the others 16 lines at most.");
        BeaconWall x = new BeaconWall();
        for (int k = 0; k < 4; k++) {
            edge.taken(x, k, LINE.repeat(24), 24);
            edge.refused(x, k, LINE.repeat(25), 3, 192);
        }
        edge.due("a full book", x.look(8) + x.look(9) + x.look(10) + x.look(11), 96);
        edge.taken(x, 4, "at 0 deaf 0;".repeat(15) + "at 0 late 0;", 16);
        edge.due("lines of PLAN", x.look(12), 16);
        x.wall(1, false);
        x.breaths(1);
        edge.due("the 16th is done", x.of(0, 3), 1);
        edge.refused(x, 4, "at 0 deaf 0;".repeat(17), 3, 192);
        StringBuilder tree = new StringBuilder();
        for (int i = 15; i >= 1; i--) {
            tree.append("keeper ").append(i).append(" below 0;");
        }
        edge.taken(x, 5, tree.toString(), 15);
        edge.due("lines of TREE", x.look(13), 15);
    }

    // ---- tokens

    private void letters() {
        edge.words(TERMS, "TOKENS: letters (a .. z, A .. Z) as many as stand together are KEYWORDS (those told here for that text) "
            + "or none;");
        BeaconWall x = new BeaconWall();
        for (char sign : new char[] {'a', 'z', 'A', 'Z'}) {
            edge.refused(x, 0, "any" + sign, 1, 0);
            edge.refused(x, 0, "0 " + sign + "any", 1, 2);
        }
        // What stands beside the letters in the table of signs is none: the KEYWORD ahead of it ends there.
        for (char sign : new char[] {'@', '[', '`', '{', (char) 225, (char) 193}) {
            edge.refused(x, 0, "any" + sign, 1, 3);
        }
        String[][] words = {{"any", "not", "end", "same"}, {"at", "tell", "deaf", "wake", "late", "soon", "gate"}, {"keeper", "below"}};
        String[] ahead = {"0 0 0>", "", "keeper 1 "};
        for (String[] others : words) {
            for (String word : others) {
                if (others != words[0]) {
                    edge.refused(x, 0, word + " 0 0>0;", 1, 0);
                }
                if (others != words[1]) {
                    edge.refused(x, 4, "at 0 " + word + " 0;", 1, 5);
                }
                if (others != words[2]) {
                    edge.refused(x, 5, ahead[2] + word + " 0;", 1, 9);
                }
            }
        }
        edge.refused(x, 0, ahead[0] + "Same;", 1, 6);
        edge.refused(x, 0, ahead[0] + "samE;", 1, 6);
        edge.refused(x, 0, ahead[0] + "sam;", 1, 6);
        edge.refused(x, 5, "keeperkeeper", 1, 0);
        edge.taken(x, 0, "any not end any>same;", 1);
        edge.taken(x, 0, "0any0>same;", 1);
    }

    private void digits() {
        edge.words(TERMS, "digits as many as stand together NUMBERS of 1 to 4 digits or none;");
        BeaconWall x = new BeaconWall();
        edge.taken(x, 0, "7 07 007>0007;", 1);
        edge.due("0007 is 7", x.says(6, 7, 7, 1), NONE);
        edge.taken(x, 0, "6 07 007>0005;", 1);
        edge.due("0005 is 5", x.says(6, 7, 7, 0), 5);
        edge.refused(x, 0, "00007", 1, 0);
        edge.refused(x, 0, "0 123456789012345678901234567890", 1, 2);
        edge.refused(x, 0, "9999", 2, 0);
        edge.refused(x, 0, "09", 2, 0);
        edge.refused(x, 0, "90", 2, 0);
        edge.taken(x, 4, "at 0999 deaf 0031;", 1);
        edge.refused(x, 4, "at 00999 deaf 0;", 1, 3);
        edge.refused(x, 0, "0/", 1, 1);
        edge.refused(x, 0, "0:", 1, 1);
        edge.refused(x, 0, "-1", 1, 0);
    }

    private void signsAndBlanks() {
        edge.words(TERMS, "; , > . Blanks (32, 10) between.");
        BeaconWall x = new BeaconWall();
        edge.taken(x, 0, "  0,1\n,2 0 \n\n0 > 1\n; \n", 1);
        edge.taken(x, 0, " \n", 0);
        edge.taken(x, 0, " ".repeat(400), 0);
        for (char sign : new char[] {0, 9, 11, 13, 31, 33, 127, 160, 255, '.', '<', '=', '?', '-', '+', ':', '_'}) {
            edge.refused(x, 0, "0" + sign + "0 0>1;", 1, 1);
            edge.refused(x, 0, "" + sign, 1, 0);
        }
        edge.refused(x, 0, "0\t8", 1, 1);
        // None of the signs stands for another.
        edge.refused(x, 0, "0;1 0 0>2;", 1, 1);
        edge.refused(x, 0, "0>1 0 0>2;", 1, 1);
        edge.refused(x, 0, "0 0 0>1,", 1, 7);
        edge.refused(x, 0, "0 0 0>1>", 1, 7);
        edge.refused(x, 0, "0 0 0;1;", 1, 5);
        edge.refused(x, 4, "at 0 deaf 0,", 1, 11);
        edge.refused(x, 5, "keeper 1 below 0>", 1, 16);
    }

    // ---- FAULTS

    private void firstFault() {
        edge.words(TERMS, "FAULTS, the first by its place, at one place the least:");
        BeaconWall x = new BeaconWall();
        edge.refused(x, 0, "8 ? 8", 2, 0);
        edge.refused(x, 0, "? 8 8", 1, 0);
        edge.refused(x, 0, "0 0 0>8;?", 2, 6);
        edge.refused(x, 0, LINE.repeat(24) + ";8", 1, 192);
        edge.refused(x, 0, LINE.repeat(24) + "8 ?", 2, 192);
        edge.refused(x, 0, LINE.repeat(24) + "0 ?", 3, 192);
        edge.refused(x, 0, LINE.repeat(23) + "0 ?;" + LINE.repeat(3), 1, 186);
        edge.refused(x, 4, "at 1000 deaf 99;", 2, 3);
        edge.refused(x, 5, "keeper 16 below 99;", 2, 7);
    }

    private void faultOne() {
        edge.words(TERMS, "1 what can't stand there (the end: the text's length).");
        BeaconWall x = new BeaconWall();
        edge.refused(x, 0, "0", 1, 1);
        edge.refused(x, 0, "0 0 0>1  \n", 1, 10);
        edge.refused(x, 0, "any", 1, 3);
        edge.refused(x, 0, "not", 1, 3);
        edge.refused(x, 0, "0 0 0>", 1, 6);
        edge.refused(x, 0, "0,", 1, 2);
        edge.refused(x, 4, "at", 1, 2);
        edge.refused(x, 4, "at 0 ", 1, 5);
        edge.refused(x, 4, "at 0 deaf", 1, 9);
        edge.refused(x, 4, "at 0 deaf 0", 1, 11);
        edge.refused(x, 5, "keeper", 1, 6);
        edge.refused(x, 5, "keeper 1 below", 1, 14);
        edge.refused(x, 5, "keeper 1 below 0", 1, 16);
        edge.refused(x, 0, "0" + ",0".repeat(199) + " ", 1, 400);
        edge.refused(x, 0, "0" + ",0".repeat(199) + ",", 1, 400);
        edge.refused(x, 0, "0 0", 1, 3);
        edge.refused(x, 0, "0 0 0", 1, 5);
        edge.refused(x, 4, "at 0 tell 0", 1, 11);
        edge.refused(x, 4, "at 0 tell 0 0", 1, 13);
        edge.refused(x, 4, "at 0 gate 0", 1, 11);
        edge.refused(x, 5, "keeper 1", 1, 8);
        edge.refused(x, 0, " ".repeat(399) + "0", 1, 400);
        edge.refused(x, 0, " ".repeat(399) + ";", 1, 399);
        edge.refused(x, 0, "0 0 0>1;;", 1, 8);
    }

    private void faultTwo() {
        edge.words(TERMS, "2 (at the NUMBER) one beyond its bounds; a KEEPER below one that is not lesser; "
            + "a KEEPER behind keeper that stood there in a line ahead (of TREE).");
        BeaconWall x = new BeaconWall();
        edge.refused(x, 0, " 8 ", 2, 1);
        edge.refused(x, 0, "0 8 ", 2, 2);
        edge.refused(x, 0, "0 0 not 8", 2, 8);
        edge.refused(x, 0, "0 0 end,8", 2, 8);
        edge.refused(x, 0, "0 0 0> 8", 2, 7);
        edge.refused(x, 4, "at 1000", 2, 3);
        edge.refused(x, 4, "at 9999", 2, 3);
        edge.refused(x, 4, "at 0 wake 32", 2, 10);
        edge.refused(x, 4, "at 0 tell 0 8", 2, 12);
        edge.refused(x, 4, "at 0 gate 0 4", 2, 12);
        edge.refused(x, 5, "keeper 0", 2, 7);
        edge.refused(x, 5, "keeper 16", 2, 7);
        edge.refused(x, 5, "keeper 14 below  14", 2, 17);
        edge.refused(x, 5, "keeper 2 below 9999", 2, 15);
        edge.refused(x, 5, "keeper 2 below 0;keeper 1 below 0;keeper 02", 2, 41);
        edge.taken(x, 5, "keeper 2 below 1;keeper 1 below 0;", 2);
        edge.taken(x, 5, "keeper 2 below 1;", 1);
    }

    private void faultThree() {
        edge.words(TERMS, "3 (at what a line begins with) the 25th, 17th line.");
        BeaconWall x = new BeaconWall();
        String page = LINE.repeat(24);
        for (String begin : List.of("any", "not", "end", "0", "7", "0007")) {
            edge.refused(x, 0, page + " \n" + begin, 3, 194);
        }
        edge.refused(x, 0, page + "same", 1, 192);
        edge.refused(x, 0, page + "00000", 1, 192);
        edge.taken(x, 0, page + " \n ", 24);
        String plan = "at 0 deaf 0;".repeat(16);
        edge.refused(x, 4, plan + " at", 3, 193);
        edge.refused(x, 4, plan + " tell", 1, 193);
        edge.refused(x, 4, plan + "0", 1, 192);
        edge.taken(x, 4, plan + " ", 16);
        // Of TREE no 17th line can be: fifteen keepers can be told, the 16th line has one of them again.
        StringBuilder tree = new StringBuilder();
        for (int i = 1; i <= 15; i++) {
            tree.append("keeper ").append(i).append(" below 0;");
        }
        edge.refused(x, 5, tree + "keeper 8", 2, tree.length() + 7);
    }

    // ---- the book as it is

    private void says() {
        edge.words(10, "What THE BOOK says (own 0 .. 7; left, right 0 .. 8; own 7: 7); by which RULE (what 1; NONE: none, own 7).");
        BeaconWall x = Edge.with("0 0 0>3;6 7,end 7,end>4;");
        edge.due("says(0, 0, 0, 0)", x.says(0, 0, 0, 0), 3);
        edge.due("says(0, 0, 0, 1)", x.says(0, 0, 0, 1), 0);
        edge.due("says(6, 8, 8, 0)", x.says(6, 8, 8, 0), 4);
        edge.due("says(6, 8, 8, 1)", x.says(6, 8, 8, 1), 1);
        edge.due("says(6, 7, 7, 1)", x.says(6, 7, 7, 1), 1);
        edge.due("says(6, 6, 8, 0)", x.says(6, 6, 8, 0), 6);
        edge.due("says(6, 6, 8, 1)", x.says(6, 6, 8, 1), NONE);
        Edge.tell(x, 1, "any any any>0;");
        edge.due("says(7, 8, 8, 0)", x.says(7, 8, 8, 0), 7);
        edge.due("says(7, 0, 0, 1)", x.says(7, 0, 0, 1), NONE);
    }

    private void saysRefuses() {
        edge.words(10, "NONE if one can't be, or another what.");
        BeaconWall x = Edge.with(Edge.ALL);
        for (int what = 0; what <= 1; what++) {
            for (int own : Edge.beyond(0, 7)) {
                edge.due("says(" + own + ", 0, 0, " + what + ")", x.says(own, 0, 0, what), NONE);
            }
            for (int seen : Edge.beyond(0, 8)) {
                edge.due("says(0, " + seen + ", 0, " + what + ")", x.says(0, seen, 0, what), NONE);
                edge.due("says(0, 0, " + seen + ", " + what + ")", x.says(0, 0, seen, what), NONE);
                edge.due("says(7, " + seen + ", 0, " + what + ")", x.says(7, seen, 0, what), NONE);
            }
        }
        for (int what : Edge.beyond(0, 1)) {
            edge.due("says(0, 0, 0, " + what + ")", x.says(0, 0, 0, what), NONE);
        }
    }

    private void keeps() {
        edge.words(23, "THE BOOK is kept as THE OTHER BOOK: how many RULES it has.");
        BeaconWall x = new BeaconWall();
        edge.due("keeps() of an empty one", x.keeps(), 0);
        for (int p = 0; p < 4; p++) {
            Edge.tell(x, p, LINE.repeat(24));
        }
        edge.due("RULES of THE OTHER BOOK", x.look(14), 0);
        edge.due("keeps() of a full one", x.keeps(), 96);
        edge.due("RULES of THE OTHER BOOK", x.look(14), 96);
        edge.words(TERMS, "THE OTHER BOOK: THE BOOK as it was when it was kept (empty at first).");
        x = new BeaconWall();
        edge.due("RULES at first", x.look(14), 0);
        edge.due("alike with an empty one", x.alike(24, 0), NONE);
        Edge.tell(x, 0, Edge.ALL);
        edge.due("alike with an empty one", x.alike(24, 0), 1);
        x.keeps();
        edge.due("alike with itself", x.alike(24, 0), NONE);
        Edge.tell(x, 0, "");
        edge.due("as it was", x.look(14), 1);
        edge.due("as it was", x.alike(24, 0), 1);
    }

    private void quiet() {
        edge.words(31, "QUIET what 0 alike, 1 with NOBODY.");
        BeaconWall x = Edge.with("1 1 1>0;2 end end>0;3 3 end>0;4 end 4>0;5 any any>0;6 any any>6;");
        edge.due("quiet(0)", x.quiet(0), 255 - 2 - 32);
        edge.due("quiet(1)", x.quiet(1), 255 - 4 - 32);
        edge.words(31, "NONE for another what.");
        for (int what : Edge.beyond(0, 1)) {
            edge.due("quiet(" + what + ")", x.quiet(what), NONE);
        }
        edge.words(TERMS, "QUIET: MINDS that stay what they are between two of their own: a set; "
            + "MINDS that stay with NOBODY left and right: a set (7 in both).");
        x = Edge.with("7 any any>0;any any any>1;");
        edge.due("quiet(0)", x.quiet(0), 2 + 128);
        edge.due("quiet(1)", x.quiet(1), 2 + 128);
        x = new BeaconWall();
        edge.due("quiet(0) of an empty one", x.quiet(0), 255);
        edge.due("quiet(1) of an empty one", x.quiet(1), 255);
        x = Edge.with("any any any>same;");
        edge.due("quiet(0) of same", x.quiet(0), 255);
    }

    private void rules() {
        edge.words(32, "What 0 CLASH, 1 DEAD, 2 which, 3 MIRRORED, 4 in how many not.");
        BeaconWall x = Edge.with("0 1 2>3;0 1 2>4;");
        int[] due = {1, 1, 1, 0, 2};
        for (int what = 0; what <= 4; what++) {
            edge.due("rules(" + what + ")", x.rules(what), due[what]);
        }
        edge.words(32, "NONE for another what.");
        for (int what : Edge.beyond(0, 4)) {
            edge.due("rules(" + what + ")", x.rules(what), NONE);
        }
    }

    private void clash() {
        edge.words(TERMS, "CLASH: how many couples of RULES (the lesser number ahead) fit some own (0 .. 6), left, right in common "
            + "and say unlike there;");
        edge.due("no RULES", new BeaconWall().rules(0), 0);
        edge.due("one RULE", Edge.with(Edge.ALL).rules(0), 0);
        edge.due("own 7 alone in common", Edge.with("6,7 any any>1;7 any any>2;").rules(0), 0);
        edge.due("own 6 in common", Edge.with("6,7 any any>1;6 any any>2;").rules(0), 1);
        edge.due("own end alone in common", Edge.with("0,end 0 0>1;1,end 0 0>2;").rules(0), 0);
        edge.due("left NOBODY in common", Edge.with("0 0,end 0>1;0 1,end 0>2;").rules(0), 1);
        edge.due("right NOBODY in common", Edge.with("0 0 0,end>1;0 0 not 0>2;").rules(0), 1);
        edge.due("nothing left in common", Edge.with("0 0,1 0>1;0 not 0,1 0>2;").rules(0), 0);
        edge.due("nothing right in common", Edge.with("0 0 0,1>1;0 0 not 0,1>2;").rules(0), 0);
        edge.due("they say the same", Edge.with("0 0 0>1;0 0 any>1;").rules(0), 0);
        edge.due("same says the same", Edge.with("3 0 0>3;3 0 any>same;").rules(0), 0);
        edge.due("same says unlike for 4", Edge.with("3,4 0 0>3;any 0 any>same;").rules(0), 1);
        edge.due("same and same", Edge.with("any any any>same;any any any>same;").rules(0), 0);
        BeaconWall x = new BeaconWall();
        for (int p = 0; p < 4; p++) {
            Edge.tell(x, p, "any any any>0;any any any>1;any any any>2;any any any>3;".repeat(6));
        }
        edge.due("a full book: of 96 in four groups", x.rules(0), 96 * 95 / 2 - 4 * (24 * 23 / 2));
        for (int p = 0; p < 4; p++) {
            for (int q = p; q < 4; q++) {
                x = new BeaconWall();
                Edge.tell(x, p, "6 6 6>1;".repeat(23) + "0 0 0>1;");
                Edge.tell(x, q, p == q ? "0 0 0>1;6 6 6>1;0 0 0>2;" : "0 0 0>2;");
                edge.due("one of PAGE " + p + ", one of PAGE " + q, x.rules(0), 1);
            }
        }
    }

    private void dead() {
        edge.words(TERMS, "DEAD: how many RULES decide nowhere (own 0 .. 6); which is the least (NONE).");
        BeaconWall x = new BeaconWall();
        edge.due("no RULES", x.rules(1), 0);
        edge.due("no RULES", x.rules(2), NONE);
        x = Edge.with("7 any any>0;6 6 end>0;6,7 6 end>1;");
        edge.due("own 7 alone, and one behind another", x.rules(1), 2);
        edge.due("the least", x.rules(2), 0);
        x = Edge.with("6 6 end>0;");
        edge.due("none", x.rules(2), NONE);
        Edge.tell(x, 3, "0,1 0 0>0;0 0 0>0;");
        edge.due("on a later page", x.rules(2), 73);
        for (int p = 0; p < 4; p++) {
            Edge.tell(x, p, "any any any>0;".repeat(24));
        }
        edge.due("a full book: all but one", x.rules(1), 95);
        edge.due("a full book", x.rules(2), 1);
        edge.due("6 end end is the last case", Edge.with("6 end end>0;").rules(1), 0);
        StringBuilder page = new StringBuilder();
        for (int i = 0; i < 23; i++) {
            page.append(i % 7).append(' ').append(i / 7).append(" any>6;");
        }
        x = new BeaconWall();
        Edge.tell(x, 3, page + "6 6 any>0;");
        edge.due("all 24 of a page decide", x.rules(1), 0);
        Edge.tell(x, 3, page + "0 0 any>0;");
        edge.due("the last RULE that can be", x.rules(1), 1);
        edge.due("the last RULE that can be", x.rules(2), 95);
    }

    private void mirrored() {
        edge.words(TERMS, "MIRRORED: whether THE BOOK says the same, if left and right are changed (1, 0); "
            + "in how many of 8 times 9 times 9 cases not.");
        edge.due("an empty one", new BeaconWall().rules(3), 1);
        edge.due("an empty one", new BeaconWall().rules(4), 0);
        edge.due("left and right alike", Edge.with("any 3 3>0;").rules(3), 1);
        BeaconWall x = Edge.with("any end not end>0;");
        edge.due("not", x.rules(3), 0);
        // Own 0 stays 0, own 7 stays 7; of the others 8 cases each way.
        edge.due("in how many", x.rules(4), 6 * 16);
        edge.due("own 7 is always mirrored", Edge.with("7 1 2>0;").rules(4), 0);
        edge.due("own 6 is not", Edge.with("6 1 2>0;").rules(4), 2);
    }

    private void unlike() {
        edge.words(41, "UNLIKE what 0 in how many cases, 1 the least.");
        BeaconWall x = new BeaconWall();
        Edge.tell(x, 0, "any any any>0;");
        Edge.tell(x, 3, "6 end end>0;7 any any>0;");
        edge.due("unlike(3, 2, 0)", x.unlike(3, 2, 0), 1);
        edge.due("unlike(3, 2, 1)", x.unlike(3, 2, 1), 688);
        edge.due("unlike(0, 1, 0)", x.unlike(0, 1, 0), 6 * 81);
        edge.due("unlike(0, 1, 1)", x.unlike(0, 1, 1), 100);
        edge.due("unlike(1, 0, 0)", x.unlike(1, 0, 0), 6 * 81);
        edge.words(41, "NONE, too, if one can't be, or another what.");
        for (int what = 0; what <= 1; what++) {
            for (int p : Edge.beyond(0, 3)) {
                edge.due("unlike(" + p + ", 0, " + what + ")", x.unlike(p, 0, what), NONE);
                edge.due("unlike(0, " + p + ", " + what + ")", x.unlike(0, p, what), NONE);
            }
        }
        for (int what : Edge.beyond(0, 1)) {
            edge.due("unlike(0, 1, " + what + ")", x.unlike(0, 1, what), NONE);
        }
        edge.words(TERMS, "UNLIKE of PAGES p, q, each alone as a book: in how many cases (own 0 .. 6) they say unlike; "
            + "the least such case (100 own + 10 left + right; NOBODY is 8; NONE).");
        edge.due("a PAGE and itself", x.unlike(3, 3, 0), 0);
        edge.due("a PAGE and itself", x.unlike(3, 3, 1), NONE);
        edge.due("two empty ones", x.unlike(1, 2, 1), NONE);
        Edge.tell(x, 1, "0 0 0>1;");
        edge.due("the least that can be", x.unlike(1, 2, 1), 0);
        Edge.tell(x, 1, "7 any any>1;end any any>2;");
        edge.due("own 7 is no case", x.unlike(1, 2, 0), 0);
        Edge.tell(x, 1, Edge.ALL);
        edge.due("in all", x.unlike(1, 2, 0), 7 * 81);
        Edge.tell(x, 1, "3 3 3>same;");
        edge.due("same says what none says", x.unlike(1, 2, 0), 0);
    }
}
