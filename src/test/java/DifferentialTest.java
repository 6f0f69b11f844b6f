import java.util.Random;

/** Runs of up to 512 calls by chance (the same ones each time), each answer compared with that of Naive. */
public final class DifferentialTest {
    private static final Check CHECK = new Check("DifferentialTest");
    private static final String[] PATTERNS = {"any", "any", "any", "0", "1", "2", "3", "7", "end", "not end", "not 0",
        "0,1", "1, 2,3", "not 1,2", "not 7 , end", "5,6", "4", "0,1,2,3,4,5,6,7"};
    private static final String[] MINDS = {"0", "1", "2", "3", "4", "7", "7", "same"};

    private final Random random;
    private final BeaconWall x = new BeaconWall();
    private final Naive y = new Naive();
    private final int run;
    private int calls = 0;

    private DifferentialTest(int run) {
        this.run = run;
        random = new Random(run);
    }

    public static void main(String[] args) {
        int runs = args.length > 0 ? Integer.parseInt(args[0]) : 300;
        for (int run = 0; run < runs; run++) {
            new DifferentialTest(run).go();
        }
        CHECK.finish();
    }

    private void due(String call, long got, long want) {
        calls++;
        CHECK.due("run " + run + ": " + call, got, want);
    }

    private void due(String call, boolean got, boolean want) {
        due(call, got ? 1 : 0, want ? 1 : 0);
    }

    private int upTo(int most) {
        return random.nextInt(most + 1);
    }

    /** Mostly within the bounds, now and then just beyond them. */
    private int about(int least, int most) {
        int dice = upTo(40);
        if (dice == 0) {
            return least - 1;
        }
        if (dice == 1) {
            return most + 1;
        }
        if (dice == 2) {
            return random.nextInt();
        }
        return least + upTo(Math.max(0, most - least));
    }

    /** An object is promised for 512 calls: half of the runs spend the last of them on all that can be seen. */
    private void go() {
        boolean looksAtAll = run % 2 == 0;
        int most = looksAtAll ? 220 : 480;
        while (calls < most) {
            int dice = upTo(99);
            if (dice < 12) {
                tell();
            } else if (dice < 40) {
                live();
            } else if (dice < 60) {
                look();
            } else if (dice < 85) {
                think();
            } else {
                wonder();
            }
        }
        if (looksAtAll) {
            lookAtAll();
        }
        CHECK.due("calls of run " + run + ", " + calls + ", are 512 at most", calls <= 512, true);
    }

    // ---- texts

    private void tell() {
        int k = upTo(30) == 0 ? about(0, 5) : new int[] {0, 0, 0, 1, 2, 3, 4, 4, 5}[upTo(8)];
        String text = k == 4 ? plan() : k == 5 ? tree() : page();
        if (upTo(3) == 0) {
            text = spoil(text);
        }
        feed(text);
        due("text(" + k + ") of " + text, x.text(k), y.text(k));
        due("fault(0) of " + text, x.fault(0), y.fault(0));
        due("fault(1) of " + text, x.fault(1), y.fault(1));
    }

    private void feed(String text) {
        StringBuilder padded = new StringBuilder(text);
        while (padded.length() % 20 != 0) {
            padded.append('x');
        }
        for (int i = 0; i < padded.length(); i += 20) {
            int[] w = new int[5];
            for (int j = 0; j < 5; j++) {
                w[j] = Check.word(padded, i + 4 * j);
            }
            due("feed", x.feed(w[0], w[1], w[2], w[3], w[4]), y.feed(w[0], w[1], w[2], w[3], w[4]));
        }
        due("end(" + text.length() + ")", x.end(text.length()), y.end(text.length()));
    }

    private String page() {
        StringBuilder text = new StringBuilder();
        int rules = new int[] {0, 1, 2, 3, 5, 8, 24, 25}[upTo(7)];
        int counting = upTo(3);
        for (int i = 0; i < rules; i++) {
            if (rules >= 24) {
                text.append(upTo(7)).append(' ').append(upTo(7)).append(upTo(1) == 0 ? " any>" : " 0>").append(upTo(7)).append(';');
            } else {
                text.append(part()).append(' ').append(part()).append(' ').append(part()).append('>');
                text.append(MINDS[upTo(MINDS.length - 1)]).append(upTo(5) == 0 ? " ;\n" : ";");
            }
        }
        // Books by which all count to the same breath are the ones that work: without them much would never be asked.
        String all = counting == 0 ? "" : counting == 1 ? "any any any>7;" : counting == 2
            ? "0,1 any any>2;2 any any>3;3 any any>7;" : "0 any any>2;1 any any>2;2 0,1,2 any>7;2 end any>7;";
        return upTo(1) == 0 ? text.toString() + all : all + text;
    }

    private String part() {
        return PATTERNS[upTo(PATTERNS.length - 1)];
    }

    private String plan() {
        String[] deeds = {"tell", "deaf", "wake", "late", "soon", "gate"};
        StringBuilder text = new StringBuilder();
        int lines = new int[] {0, 1, 3, 8, 16, 17}[upTo(5)];
        for (int i = 0; i < lines; i++) {
            int what = upTo(5);
            text.append("at ").append(upTo(30)).append(' ').append(deeds[what]).append(' ').append(upTo(upTo(1) == 0 ? 3 : 31));
            text.append(what == 0 ? " " + upTo(7) : what == 5 ? " " + upTo(3) : "").append(';');
        }
        return text.toString();
    }

    private String tree() {
        StringBuilder text = new StringBuilder();
        int lines = new int[] {0, 1, 3, 8, 15}[upTo(4)];
        for (int i = 1; i <= lines; i++) {
            if (lines == 15 || upTo(4) > 0) {
                text.append("keeper ").append(i).append(" below ").append(upTo(i - 1)).append(';');
            }
        }
        if (upTo(8) == 0) {
            text.append("keeper 3 below 2;");
        }
        return text.toString();
    }

    private String spoil(String text) {
        String[] bits = {";", ",", ">", "8", "9", "any", "not", "end", "same", "at", "keeper", " ", "\n", "12345", "0007",
            "Any", "x", ".", "\t", "\u00ff", "\u0000", "32", "31", "16", "1000", "999", "below", "tell", "gate", "-1"};
        StringBuilder spoilt = new StringBuilder(text);
        int place = upTo(text.length());
        if (upTo(1) == 0 && place < text.length()) {
            spoilt.delete(place, Math.min(text.length(), place + 1 + upTo(3)));
        }
        if (upTo(2) > 0) {
            spoilt.insert(Math.min(place, spoilt.length()), bits[upTo(bits.length - 1)]);
        }
        return spoilt.toString();
    }

    // ---- the wall

    private void live() {
        int dice = upTo(20);
        if (dice == 0) {
            int n = upTo(2) == 0 ? about(0, 32) : about(0, 5);
            boolean round = random.nextBoolean();
            due("wall(" + n + ", " + round + ")", x.wall(n, round), y.wall(n, round));
        } else if (dice < 11) {
            int what = about(0, 3);
            int who = about(0, Math.max(0, y.keepers() - 1));
            int v = what == 0 ? about(0, 7) : what == 3 ? about(0, 3) : about(0, 1);
            due("act(" + what + ", " + who + ", " + v + ")", x.act(what, who, v), y.act(what, who, v));
        } else if (dice < 16) {
            int n = upTo(5) == 0 ? about(1, 60) : about(1, 3);
            due("breaths(" + n + ")", x.breaths(n), y.breaths(n));
        } else if (dice < 19) {
            due("undo()", x.undo(), y.undo());
        } else {
            boolean taken = random.nextBoolean();
            due("image(" + taken + ")", x.image(taken), y.image(taken));
        }
    }

    private void lookAtAll() {
        for (int what = -1; what <= 16; what++) {
            due("look(" + what + ")", x.look(what), y.look(what));
        }
        for (int i = 0; i < y.keepers(); i++) {
            for (int what = 0; what <= 6; what++) {
                due("of(" + i + ", " + what + ")", x.of(i, what), y.of(i, what));
            }
        }
    }

    private void look() {
        for (int i = 0; i < 3; i++) {
            int kind = about(0, 15);
            due("look(" + kind + ")", x.look(kind), y.look(kind));
            int keeper = about(0, Math.max(0, y.keepers() - 1));
            int what = about(0, 6);
            due("of(" + keeper + ", " + what + ")", x.of(keeper, what), y.of(keeper, what));
            int line = i == 0 ? y.look(7) - 1 : about(0, Math.max(0, y.look(7) - 1));
            int column = about(0, 3);
            due("log(" + line + ", " + column + ")", x.log(line, column), y.log(line, column));
        }
        for (int i = 0; i < 2; i++) {
            int own = about(0, 7);
            int left = about(0, 8);
            int right = about(0, 8);
            int which = about(0, 1);
            due("says(" + own + ", " + left + ", " + right + ", " + which + ")", x.says(own, left, right, which),
                y.says(own, left, right, which));
        }
    }

    // ---- in thought

    private int shortLength() {
        return upTo(6) == 0 ? about(1, 24) : about(1, 6);
    }

    private void think() {
        int n = upTo(5) == 0 ? about(1, 32) : about(1, 7);
        int b = about(0, n > 0 && n < 40 ? n - 1 : 0);
        int k = about(0, n > 0 && n < 40 ? n - 1 : 0);
        int what = about(0, 2);
        int mind = about(0, 7);
        int t = upTo(3) == 0 ? about(0, 116) : about(0, 6);
        String run = "(" + n + ", " + b + ", " + what + ")";
        switch (upTo(10)) {
            case 0 -> due("fires" + run, x.fires(n, b, what), y.fires(n, b, what));
            case 1 -> due("soon" + run, x.soon(n, b, what), y.soon(n, b, what));
            case 2 -> due("deafened" + run, x.deafened(n, b, what), y.deafened(n, b, what));
            case 3 -> due("ring" + run, x.ring(n, b, what), y.ring(n, b, what));
            case 4 -> due("trees(" + what + ")", x.trees(what), y.trees(what));
            case 5 -> due("picture(" + n + ", " + b + ", " + t + ", " + k + ")", x.picture(n, b, t, k), y.picture(n, b, t, k));
            case 6 -> due("mark(" + n + ", " + b + ", " + mind + ", " + k + ")", x.mark(n, b, mind, k), y.mark(n, b, mind, k));
            case 7 -> due("stir" + run, x.stir(n, b, what), y.stir(n, b, what));
            case 8 -> due("crowd(" + n + ", " + b + ", " + mind + ", " + what + ")", x.crowd(n, b, mind, what), y.crowd(n, b, mind, what));
            case 9 -> due("begun(" + n + ", " + what + ")", x.begun(n, what), y.begun(n, what));
            default -> thinkOfLengths(shortLength(), what);
        }
    }

    private void thinkOfLengths(int to, int what) {
        int rule = upTo(3) == 0 ? about(0, 95) : about(0, 6);
        int d = upTo(1) == 0 ? about(0, 40) : about(0, 5);
        String call = "(" + to + ", " + what + ")";
        due("works" + call, x.works(to, what), y.works(to, what));
        due("used" + call, x.used(to, what), y.used(to, what));
        due("worn(" + rule + ", " + to + ")", x.worn(rule, to), y.worn(rule, to));
        due("mends(" + rule + ", " + to + ")", x.mends(rule, to), y.mends(rule, to));
        due("two(" + to + ", " + d + ")", x.two(to, d), y.two(to, d));
        due("alike" + call, x.alike(to, what), y.alike(to, what));
        due("enough(" + to + ")", x.enough(to), y.enough(to));
        due("mixed" + call, x.mixed(to, what), y.mixed(to, what));
        if (upTo(3) == 0) {
            int few = upTo(9) == 0 ? about(1, 5) : about(1, 3);
            due("more(" + few + ", " + what + ")", x.more(few, what), y.more(few, what));
        }
    }

    private void wonder() {
        int what = about(0, 1);
        int i = about(0, 3);
        int j = about(0, 3);
        int p = about(0, 3);
        switch (upTo(9)) {
            case 0 -> due("keeps()", upTo(2) == 0 ? x.keeps() - y.keeps() : 0, 0);
            case 1 -> {
                if (y.keepers() < 5) {
                    due("before()", x.before(), y.before());
                }
            }
            case 2 -> due("round(" + what + ")", x.round(what), y.round(what));
            case 3 -> wonderWhoHears();
            case 4 -> due("quiet(" + what + ")", x.quiet(what), y.quiet(what));
            case 5 -> due("rules(" + p + ")", x.rules(p), y.rules(p));
            case 6 -> due("unlike(" + i + ", " + j + ", " + what + ")", x.unlike(i, j, what), y.unlike(i, j, what));
            case 7 -> {
                int place = upTo(9) == 0 ? -1 : about(0, 99);
                int s = about(0, 99);
                int a = about(-9, 9);
                int b = about(1, 9);
                due("goes(" + place + ", " + s + ", " + a + ", " + b + ")", x.goes(place, s, a, b), y.goes(place, s, a, b));
            }
            case 8 -> {
                due("meets(" + i + ", " + j + ", " + p + ")", x.meets(i, j, p), y.meets(i, j, p));
                int n = about(2, 99);
                int t = about(0, 999);
                due("echo(" + i + ", " + n + ", " + t + ", " + what + ")", x.echo(i, n, t, what), y.echo(i, n, t, what));
            }
            default -> {
                int n = about(1, 12);
                int lit = about(0, n > 0 && n < 13 ? (1 << n) - 1 : 0);
                due("lights(" + n + ", " + lit + ", " + what + ")", x.lights(n, lit, what), y.lights(n, lit, what));
            }
        }
    }

    private void wonderWhoHears() {
        int k = about(0, Math.max(0, y.keepers() - 1));
        int j = upTo(1) == 0 ? -1 : about(0, Math.max(0, y.keepers() - 1));
        int t = upTo(1) == 0 ? about(0, 200) : about(0, 5);
        due("heard(" + k + ", " + j + ", " + t + ")", x.heard(k, j, t), y.heard(k, j, t));
    }
}
