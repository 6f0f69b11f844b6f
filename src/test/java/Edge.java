import java.util.ArrayList;
import java.util.List;

/**
 * What the tests of single sentences share. Each test begins with the words of the document that it is a test of; all
 * that it then finds wrong is told with them.
 */
final class Edge {
    static final int TERMS = Document.TERMS;
    static final int NONE = -1;
    static final int LEAST = Integer.MIN_VALUE;
    static final int MOST = Integer.MAX_VALUE;
    /** All light their fires in the first breath. */
    static final String ALL = "any any any>7;";
    /** All light their fires in the third breath. */
    static final String COUNT = "0,1 any any>2;2 any any>3;3 any any>7;";
    /** Keeper 0 counts six breaths, keeper 1 how often: behind t breaths they are as clockHands tells. */
    static final String CLOCK = "1 end any>2;2 end any>3;3 end any>4;4 end any>5;5 end any>6;6 end any>1;"
        + "0 6 any>1;1 6 any>2;2 6 any>3;3 6 any>4;";

    /** Up to seven keepers light their fires in the fourth breath; of eight the one with three 5 in a row is late. */
    static final String SEVEN = "0 0 0>4;0,1 any any>2;4 4 4>5;2,4 any any>3;5 5 5>same;3,5 any any>6;6 any any>7;";

    private final Check check;
    private final Document document;
    private String words = "";

    Edge(Check check, Document document) {
        this.check = check;
        this.document = document;
    }

    /** The words, of a promise or of the section "Terms", that the calls behind this are a test of. */
    void words(int section, String quoted) {
        words = (section == TERMS ? "Terms" : "promise " + section) + " '" + quoted + "': ";
        if (document != null) {
            check.due(words + "stands in the document", document.quote(section, quoted), true);
        }
    }

    void due(String call, long got, long want) {
        check.due(words + call, got, want);
    }

    void due(String call, boolean got, boolean want) {
        check.due(words + call, got, want);
    }

    /** Numbers just and far beyond the bounds. */
    static int[] beyond(int least, int most) {
        return new int[] {least - 1, most + 1, LEAST, MOST};
    }

    static BeaconWall with(String page) {
        BeaconWall x = new BeaconWall();
        tell(x, 0, page);
        return x;
    }

    static int tell(BeaconWall x, int k, String text) {
        Check.feed(x, text);
        return x.text(k);
    }

    /** A text with a FAULT: what text() answers, its kind, and its place. */
    void refused(BeaconWall x, int k, String text, int kind, int place) {
        String call = "text(" + k + ") of '" + text + "'";
        due(call, tell(x, k, text), NONE);
        due("fault(0) of " + call, x.fault(0), kind);
        due("fault(1) of " + call, x.fault(1), place);
    }

    void taken(BeaconWall x, int k, String text, int lines) {
        String call = "text(" + k + ") of '" + text + "'";
        due(call, tell(x, k, text), lines);
        due("fault(0) of " + call, x.fault(0), 0);
        due("fault(1) of " + call, x.fault(1), NONE);
    }

    /** All that can be seen of a small wall, the last line of THE LOG, and what can be undone, in a row. */
    static List<Integer> everything(BeaconWall x) {
        List<Integer> all = new ArrayList<>();
        for (int what = 0; what <= 15; what++) {
            all.add(x.look(what));
        }
        for (int keeper = 0; keeper < Math.min(4, all.get(0)); keeper++) {
            for (int what = 0; what <= 6; what++) {
                all.add(x.of(keeper, what));
            }
        }
        for (int what = 0; what <= 3; what++) {
            all.add(x.log(all.get(7) - 1, what));
        }
        return all;
    }

    void same(String call, List<Integer> got, List<Integer> want) {
        check.due(words + call + ": " + got + ", due is " + want, got.equals(want), true);
    }

    /**
     * Two books, as texts of page 0 and 1, by which a ring of two, one of whom has 1 and one 0, lights both fires behind
     * just so many breaths (22 to 28): they go through all couples of unlike minds, then through like ones.
     */
    static String[] ringClock(int breaths) {
        List<int[]> couples = new ArrayList<>();
        couples.add(new int[] {1, 0});
        for (int a = 0; a < 7; a++) {
            for (int b = a + 1; b < 7; b++) {
                if (a + b > 1) {
                    couples.add(new int[] {a, b});
                }
            }
        }
        for (int a = 0; couples.size() < breaths; a++) {
            couples.add(new int[] {a, a});
        }
        couples.add(new int[] {7, 7});
        List<String> rules = new ArrayList<>();
        for (int t = 0; t < breaths; t++) {
            int[] now = couples.get(t);
            int[] next = couples.get(t + 1);
            rules.add(now[0] + " " + now[1] + " any>" + next[0] + ";");
            if (now[0] != now[1]) {
                rules.add(now[1] + " " + now[0] + " any>" + next[1] + ";");
            }
        }
        return new String[] {String.join("", rules.subList(0, 24)), String.join("", rules.subList(24, Math.min(48, rules.size()))),
            String.join("", rules.subList(Math.min(48, rules.size()), rules.size()))};
    }
}
