import java.util.ArrayList;
import java.util.Arrays;
import java.util.List;
import java.util.Random;
import java.util.TreeSet;

/**
 * What is answered in thought, compared with what the wall itself does when the same is done by hand: by the public face
 * alone, with books by chance (the same ones each time), so that one promise is held against another.
 */
public final class ThoughtTest {
    private static final Check CHECK = new Check("ThoughtTest");
    private static final int NONE = -1;
    private static final String[] SEEN = {"0", "1", "2", "3", "4", "5", "6", "7", "end"};
    private static final String[] PATTERNS = {"any", "any", "any", "0", "1", "2", "3", "end", "not end", "not 0", "0,1",
        "not 1,2", "2,3,end", "7"};
    private static final String[] MINDS = {"0", "1", "2", "3", "4", "7", "same"};
    /** Books by which all count to the same breath: without them hardly a run would be good. */
    private static final String[][] COUNTS = {{}, {"any any any>7;"}, {"0,1 any any>2;", "2 any any>3;", "3 any any>7;"},
        {"0 any any>2;", "1 any any>2;", "2 0,1,2 any>7;", "2 end any>7;"}};

    private final Random random;
    private final String name;
    private final Hands hands;
    private final Hands other;

    private ThoughtTest(int seed) {
        random = new Random(seed);
        name = "book " + seed + ": ";
        hands = new Hands(someBook());
        other = new Hands(random.nextInt(3) == 0 ? Hands.copy(hands.book) : someBook());
    }

    public static void main(String[] args) {
        int books = args.length > 0 ? Integer.parseInt(args[0]) : 24;
        for (int seed = 0; seed < books; seed++) {
            new ThoughtTest(seed).compare(seed);
        }
        CHECK.finish();
    }

    private void compare(int seed) {
        for (int n = 1; n <= 5; n++) {
            for (int b = 0; b < n; b++) {
                runs(n, b);
                ringsAndDeafOnes(n, b);
            }
            begun(n);
        }
        runs(32, random.nextInt(32));
        lengths(1 + random.nextInt(6));
        twoWhoBegin(2 + random.nextInt(4));
        otherBooks(1 + random.nextInt(4));
        if (seed < 4) {
            oneRuleMore(1 + random.nextInt(2));
        }
        theBook();
        before();
        for (int i = 0; i < 6; i++) {
            round();
            heard();
        }
        trees();
    }

    private void due(String call, long got, long want) {
        CHECK.due(name + call, got, want);
    }

    private String oneOf(String[] choice) {
        return choice[random.nextInt(choice.length)];
    }

    private String someRule() {
        return oneOf(PATTERNS) + " " + oneOf(PATTERNS) + " " + oneOf(PATTERNS) + ">" + oneOf(MINDS) + ";";
    }

    private List<List<String>> someBook() {
        List<List<String>> book = Hands.emptyBook();
        book.get(random.nextInt(4)).addAll(List.of(COUNTS[random.nextInt(COUNTS.length)]));
        for (int i = random.nextInt(7); i > 0; i--) {
            List<String> page = book.get(random.nextInt(4));
            page.add(random.nextInt(page.size() + 1), someRule());
        }
        return book;
    }

    // ---- runs

    private void runs(int n, int b) {
        List<int[]> rows = hands.run(n, b, false);
        int[] last = rows.get(rows.size() - 1);
        int behind = Hands.lit(last) == 0 ? NONE : rows.size() - 1;
        String of = "(" + n + ", " + b + ", ";
        due("fires" + of + "0)", hands.ready(1).fires(n, b, 0), behind);
        due("fires" + of + "1)", hands.ready(1).fires(n, b, 1), Hands.lit(last));
        due("fires" + of + "2)", hands.ready(1).fires(n, b, 2), Hands.leastUnlit(last));
        int least = 2 * n - 2 - Math.min(b, n - 1 - b);
        due("soon" + of + "0)", hands.ready(1).soon(n, b, 0), least);
        due("soon" + of + "1)", hands.ready(1).soon(n, b, 1), behind == NONE ? -100 : behind - least);
        for (int k = 0; k < n; k += n > 5 ? 7 : 1) {
            for (int t = 0; t <= 116; t += t < 6 ? 1 : 11) {
                int shown = rows.get(Math.min(t, rows.size() - 1))[k];
                due("picture" + of + t + ", " + k + ")", hands.ready(1).picture(n, b, t, k), shown);
            }
        }
        for (int mind = 0; mind < 8; mind++) {
            mindInRun(n, b, mind, rows);
        }
        stir(n, b, rows);
    }

    private void mindInRun(int n, int b, int mind, List<int[]> rows) {
        int most = NONE;
        int first = NONE;
        TreeSet<Integer> ever = new TreeSet<>();
        int[] marked = new int[n];
        Arrays.fill(marked, NONE);
        for (int t = 0; t < rows.size(); t++) {
            int now = 0;
            for (int k = 0; k < n; k++) {
                if (rows.get(t)[k] == mind) {
                    now++;
                    ever.add(k);
                    marked[k] = marked[k] == NONE ? t : marked[k];
                }
            }
            if (now > most) {
                most = now;
                first = t;
            }
        }
        String of = "(" + n + ", " + b + ", " + mind + ", ";
        due("crowd" + of + "0)", hands.ready(1).crowd(n, b, mind, 0), most);
        due("crowd" + of + "1)", hands.ready(1).crowd(n, b, mind, 1), first);
        due("crowd" + of + "2)", hands.ready(1).crowd(n, b, mind, 2), ever.size());
        for (int k = 0; k < n; k++) {
            due("mark" + of + k + ")", hands.ready(1).mark(n, b, mind, k), marked[k]);
        }
    }

    private void stir(int n, int b, List<int[]> rows) {
        int still = 0;
        int most = 0;
        int first = NONE;
        for (int t = 1; t < rows.size(); t++) {
            int changed = 0;
            for (int k = 0; k < n; k++) {
                changed += rows.get(t)[k] != rows.get(t - 1)[k] ? 1 : 0;
            }
            still += changed == 0 ? 1 : 0;
            if (changed > most) {
                most = changed;
                first = t;
            }
        }
        String of = "stir(" + n + ", " + b + ", ";
        due(of + "0)", hands.ready(1).stir(n, b, 0), still);
        due(of + "1)", hands.ready(1).stir(n, b, 1), most);
        due(of + "2)", hands.ready(1).stir(n, b, 2), first);
    }

    private void ringsAndDeafOnes(int n, int k) {
        List<int[]> rows = hands.run(n, k, true);
        int[] last = rows.get(rows.size() - 1);
        String of = "(" + n + ", " + k + ", ";
        due("ring" + of + "0)", hands.ready(1).ring(n, k, 0), Hands.lit(last) == 0 ? NONE : rows.size() - 1);
        due("ring" + of + "1)", hands.ready(1).ring(n, k, 1), Hands.lit(last));
        due("ring" + of + "2)", hands.ready(1).ring(n, k, 2), Hands.leastUnlit(last));
        int most = 0;
        int first = NONE;
        int[] minds = Hands.beginning(n, 0);
        for (int t = 1; t <= 3 * n + 20; t++) {
            int[] next = hands.breath(minds, false, k);
            if (Hands.lit(next) - Hands.lit(minds) > most) {
                most = Hands.lit(next) - Hands.lit(minds);
                first = t;
            }
            minds = next;
        }
        due("deafened" + of + "0)", hands.ready(1).deafened(n, k, 0), most);
        due("deafened" + of + "1)", hands.ready(1).deafened(n, k, 1), first);
    }

    private void begun(int n) {
        int good = 0;
        int least = NONE;
        int shortest = NONE;
        for (int b = 0; b < n; b++) {
            if (!hands.isGood(n, b)) {
                least = least == NONE ? b : least;
                continue;
            }
            good++;
            if (shortest == NONE || hands.run(n, b, false).size() < hands.run(n, shortest, false).size()) {
                shortest = b;
            }
        }
        due("begun(" + n + ", 0)", hands.ready(1).begun(n, 0), good);
        due("begun(" + n + ", 1)", hands.ready(1).begun(n, 1), least);
        due("begun(" + n + ", 2)", hands.ready(1).begun(n, 2), shortest);
    }

    private void lengths(int to) {
        int bad = hands.firstBad(to);
        due("works(" + to + ", 0)", hands.ready(1).works(to, 0), bad);
        due("works(" + to + ", 1)", hands.ready(1).works(to, 1), bad == NONE ? NONE : hands.ready(1).fires(bad, 0, 0));
        due("works(" + to + ", 2)", hands.ready(1).works(to, 2), bad == NONE ? NONE : hands.ready(1).fires(bad, 0, 2));
        TreeSet<Integer> deciding = new TreeSet<>();
        int minds = 0;
        for (int n = 1; n <= to; n++) {
            List<int[]> rows = hands.run(n, 0, false);
            for (int t = 0; t < rows.size(); t++) {
                for (int k = 0; k < n; k++) {
                    minds |= 1 << rows.get(t)[k];
                    if (t < rows.size() - 1) {
                        int left = k == 0 ? 8 : rows.get(t)[k - 1];
                        int right = k == n - 1 ? 8 : rows.get(t)[k + 1];
                        deciding.add(hands.decides(rows.get(t)[k], left, right));
                    }
                }
            }
        }
        deciding.remove(NONE);
        int idle = NONE;
        for (int rule : ruleNumbers(hands.book)) {
            idle = idle == NONE && !deciding.contains(rule) ? rule : idle;
        }
        due("used(" + to + ", 0)", hands.ready(1).used(to, 0), deciding.size());
        due("used(" + to + ", 1)", hands.ready(1).used(to, 1), idle);
        due("used(" + to + ", 2)", hands.ready(1).used(to, 2), minds);
    }

    private static List<Integer> ruleNumbers(List<List<String>> book) {
        List<Integer> numbers = new ArrayList<>();
        for (int p = 0; p < 4; p++) {
            for (int i = 0; i < book.get(p).size(); i++) {
                numbers.add(24 * p + i);
            }
        }
        return numbers;
    }

    private void twoWhoBegin(int to) {
        for (int d : new int[] {0, 1, 2, 3, 5, 25, 26, 40}) {
            int bad = NONE;
            for (int n = to; n >= 2; n--) {
                bad = isGoodWithTwo(n, d) ? bad : n;
            }
            due("two(" + to + ", " + d + ")", hands.ready(1).two(to, d), bad);
        }
    }

    private boolean isGoodWithTwo(int n, int d) {
        int[] minds = Hands.beginning(n, 0);
        for (int t = 0; t < 3 * n + 20 && Hands.lit(minds) == 0; t++) {
            if (t == d) {
                minds[n - 1] = 1;
            }
            minds = hands.breath(minds, false, NONE);
        }
        return Hands.lit(minds) == n;
    }

    // ---- other books

    private void otherBooks(int to) {
        for (int rule : ruleNumbers(hands.book)) {
            List<List<String>> without = Hands.copy(hands.book);
            without.get(rule / 24).remove(rule % 24);
            due("worn(" + rule + ", " + to + ")", hands.ready(1).worn(rule, to), new Hands(without).firstBad(to));
            due("mends(" + rule + ", " + to + ")", hands.ready(1).mends(rule, to), mending(rule, to));
        }
        due("enough(" + to + ")", hands.ready(1).enough(to), enough(to));
        mixedAndAlike(to);
    }

    private int mending(int rule, int to) {
        int set = 0;
        String own = hands.book.get(rule / 24).get(rule % 24);
        for (int mind = 0; mind <= 8; mind++) {
            List<List<String>> tried = Hands.copy(hands.book);
            String changed = own.substring(0, own.indexOf('>') + 1) + (mind == 8 ? "same" : "" + mind) + ";";
            tried.get(rule / 24).set(rule % 24, changed);
            set |= new Hands(tried).firstBad(to) == NONE ? 1 << mind : 0;
        }
        return set;
    }

    private int enough(int to) {
        for (int pages = 0; pages <= 4; pages++) {
            for (int set = 0; set < 16; set++) {
                if (Integer.bitCount(set) == pages && new Hands(mix(Hands.emptyBook(), hands.book, set)).firstBad(to) == NONE) {
                    return set;
                }
            }
        }
        return NONE;
    }

    /** The pages of the set are of the second book. */
    private static List<List<String>> mix(List<List<String>> first, List<List<String>> second, int set) {
        List<List<String>> mixed = Hands.emptyBook();
        for (int p = 0; p < 4; p++) {
            mixed.get(p).addAll((set >> p & 1) != 0 ? second.get(p) : first.get(p));
        }
        return mixed;
    }

    private void mixedAndAlike(int to) {
        int count = 0;
        int least = NONE;
        for (int set = 0; set < 16; set++) {
            if (new Hands(mix(hands.book, other.book, set)).firstBad(to) == NONE) {
                least = count == 0 ? set : least;
                count++;
            }
        }
        BeaconWall x = new BeaconWall();
        Hands.tellBook(x, other.book);
        due("keeps()", x.keeps(), ruleNumbers(other.book).size());
        Hands.tellBook(x, hands.book);
        due("look(14)", x.look(14), ruleNumbers(other.book).size());
        due("mixed(" + to + ", 0)", x.mixed(to, 0), count);
        due("mixed(" + to + ", 1)", x.mixed(to, 1), least);
        int[] parting = parting(to);
        for (int what = 0; what < 3; what++) {
            due("alike(" + to + ", " + what + ")", x.alike(to, what), parting[what]);
        }
    }

    private int[] parting(int to) {
        for (int n = 1; n <= to; n++) {
            List<int[]> rows = hands.run(n, 0, false);
            List<int[]> otherRows = other.run(n, 0, false);
            for (int t = 0; t < Math.min(rows.size(), otherRows.size()); t++) {
                int keeper = Arrays.mismatch(rows.get(t), otherRows.get(t));
                if (keeper >= 0) {
                    return new int[] {n, t, keeper};
                }
            }
        }
        return new int[] {NONE, NONE, NONE};
    }

    private void oneRuleMore(int to) {
        int count = 0;
        int least = NONE;
        for (int code = 0; code < 7 * 81 * 8; code++) {
            int mind = code % 8;
            int right = code / 8 % 9;
            int left = code / 72 % 9;
            int own = code / 648;
            if (hands.says(own, left, right) == mind) {
                continue;
            }
            List<List<String>> more = Hands.copy(hands.book);
            more.get(0).add(0, own + " " + SEEN[left] + " " + SEEN[right] + ">" + mind + ";");
            if (new Hands(more).firstBad(to) == NONE) {
                least = count == 0 ? 1000 * own + 100 * left + 10 * right + mind : least;
                count++;
            }
        }
        due("more(" + to + ", 0)", hands.ready(1).more(to, 0), count);
        due("more(" + to + ", 1)", hands.ready(1).more(to, 1), least);
    }

    // ---- the book

    private void theBook() {
        int between = 0;
        int alone = 0;
        for (int mind = 0; mind < 8; mind++) {
            int[] three = {mind, mind, mind};
            between |= Arrays.equals(hands.breath(three, true, NONE), three) ? 1 << mind : 0;
            int[] one = {mind};
            alone |= Arrays.equals(hands.breath(one, false, NONE), one) ? 1 << mind : 0;
        }
        due("quiet(0)", hands.ready(1).quiet(0), between);
        due("quiet(1)", hands.ready(1).quiet(1), alone);
        TreeSet<Integer> dead = new TreeSet<>(ruleNumbers(hands.book));
        int unmirrored = 0;
        for (int own = 0; own < 8; own++) {
            for (int seen = 0; seen < 81; seen++) {
                dead.remove(hands.decides(own, seen / 9, seen % 9));
                unmirrored += hands.says(own, seen / 9, seen % 9) != hands.says(own, seen % 9, seen / 9) ? 1 : 0;
            }
        }
        due("rules(0)", hands.ready(1).rules(0), clashes());
        due("rules(1)", hands.ready(1).rules(1), dead.size());
        due("rules(2)", hands.ready(1).rules(2), dead.isEmpty() ? NONE : dead.first());
        due("rules(3)", hands.ready(1).rules(3), unmirrored == 0 ? 1 : 0);
        due("rules(4)", hands.ready(1).rules(4), unmirrored);
        for (int couple = 0; couple < 16; couple++) {
            unlike(couple / 4, couple % 4);
        }
    }

    /** A rule alone in a book decides wherever it fits. */
    private int clashes() {
        List<Hands> alone = new ArrayList<>();
        for (int rule : ruleNumbers(hands.book)) {
            List<List<String>> book = Hands.emptyBook();
            book.get(0).add(hands.book.get(rule / 24).get(rule % 24));
            alone.add(new Hands(book));
        }
        int couples = 0;
        for (int i = 0; i < alone.size(); i++) {
            for (int j = i + 1; j < alone.size(); j++) {
                couples += speakAgainst(alone.get(i), alone.get(j)) ? 1 : 0;
            }
        }
        return couples;
    }

    private static boolean speakAgainst(Hands one, Hands another) {
        for (int asked = 0; asked < 7 * 81; asked++) {
            int own = asked / 81;
            int left = asked / 9 % 9;
            int right = asked % 9;
            boolean both = one.decides(own, left, right) == 0 && another.decides(own, left, right) == 0;
            if (both && one.says(own, left, right) != another.says(own, left, right)) {
                return true;
            }
        }
        return false;
    }

    private void unlike(int p, int q) {
        Hands one = new Hands(mix(Hands.emptyBook(), hands.book, 1 << p));
        Hands another = new Hands(mix(Hands.emptyBook(), hands.book, 1 << q));
        int count = 0;
        int least = NONE;
        for (int asked = 0; asked < 7 * 81; asked++) {
            int own = asked / 81;
            int left = asked / 9 % 9;
            int right = asked % 9;
            if (one.says(own, left, right) != another.says(own, left, right)) {
                least = count == 0 ? 100 * own + 10 * left + right : least;
                count++;
            }
        }
        due("unlike(" + p + ", " + q + ", 0)", hands.ready(1).unlike(p, q, 0), count);
        due("unlike(" + p + ", " + q + ", 1)", hands.ready(1).unlike(p, q, 1), least);
    }

    // ---- the wall

    private void before() {
        for (int n = 1; n <= 3; n++) {
            int rows = 1 << 3 * n;
            int[] ways = new int[rows];
            for (int row = 0; row < rows; row++) {
                ways[numberOf(hands.breath(mindsOf(row, n), false, NONE))]++;
            }
            for (int i = 0; i < 20; i++) {
                int row = random.nextInt(rows);
                BeaconWall x = hands.ready(n + 4);
                x.wall(n, random.nextBoolean());
                x.act(1 + random.nextInt(2), 0, 1);
                x.act(3, n - 1, 3);
                int[] minds = mindsOf(row, n);
                for (int k = 0; k < n; k++) {
                    x.act(0, k, minds[k]);
                }
                due("before() of " + Arrays.toString(minds), x.before(), ways[row]);
            }
        }
    }

    private static int[] mindsOf(int row, int n) {
        int[] minds = new int[n];
        for (int k = 0; k < n; k++) {
            minds[k] = row >> 3 * k & 7;
        }
        return minds;
    }

    private static int numberOf(int[] minds) {
        int row = 0;
        for (int k = 0; k < minds.length; k++) {
            row |= minds[k] << 3 * k;
        }
        return row;
    }

    /** A wall with gates, deaf and late ones by chance; it takes 3 n + 1 calls. */
    private void someWall(BeaconWall x, int n) {
        x.wall(n, random.nextBoolean());
        for (int k = 0; k < n; k++) {
            x.act(1, k, random.nextInt(6) == 0 ? 1 : 0);
            x.act(2, k, random.nextInt(3) == 0 ? 1 : 0);
            x.act(3, k, Math.max(0, random.nextInt(7) - 3));
        }
    }

    private void round() {
        int n = 1 + random.nextInt(5);
        BeaconWall x = hands.ready(400);
        someWall(x, n);
        for (int k = 0; k < n; k++) {
            x.act(0, k, random.nextInt(7));
        }
        x.breaths(1 + random.nextInt(2));
        int returned = x.round(0);
        int length = x.round(1);
        List<String> seen = new ArrayList<>();
        while (seen.size() < 30) {
            StringBuilder now = new StringBuilder();
            for (int k = 0; k < n; k++) {
                now.append(x.of(k, 0)).append(x.of(k, 1)).append(' ');
            }
            int same = seen.indexOf(now.toString());
            if (same >= 0) {
                due("round(0) at " + now, returned, seen.size());
                due("round(1) at " + now, length, seen.size() - same);
                return;
            }
            seen.add(now.toString());
            x.breaths(1);
        }
        CHECK.due(name + "round(0) at " + seen.get(0) + ", " + returned + ", is NONE or 30 at least", returned == NONE || returned >= 30, true);
    }

    /** What is told goes on by a book of two rules: who sees a 1 has it a breath later. */
    private void heard() {
        List<List<String>> book = Hands.emptyBook();
        book.get(2).addAll(List.of("0 1 any>1;", "0 any 1>1;"));
        int n = 1 + random.nextInt(6);
        int k = random.nextInt(n);
        BeaconWall x = new Hands(book).ready(400);
        someWall(x, n);
        x.act(0, k, 1);
        int[] behind = new int[n];
        Arrays.fill(behind, NONE);
        for (int t = 0; t <= 2 * n + 1; t++) {
            int known = 0;
            for (int j = 0; j < n; j++) {
                behind[j] = behind[j] == NONE && x.of(j, 0) == 1 ? t : behind[j];
                known += behind[j] == NONE ? 0 : 1;
            }
            due("heard(" + k + ", -1, " + t + ")", x.heard(k, NONE, t), known);
            x.breaths(1);
        }
        for (int j = 0; j < n; j++) {
            due("heard(" + k + ", " + j + ", 0)", x.heard(k, j, 0), behind[j]);
        }
    }

    // ---- trees

    private void trees() {
        int[] above = new int[16];
        Arrays.fill(above, NONE);
        StringBuilder text = new StringBuilder();
        int m = 0;
        for (int k = 1; k < 16; k++) {
            if (random.nextInt(3) > 0) {
                above[k] = random.nextInt(k);
                text.append("keeper ").append(k).append(" below ").append(above[k]).append(";");
                m = k;
            }
        }
        int[] minds = Hands.beginning(m + 1, 0);
        int t = 0;
        while (t < 3 * m + 23 && Hands.lit(minds) == 0) {
            minds = treeBehindABreath(minds, above);
            t++;
        }
        BeaconWall x = new Hands(hands.book).ready(40);
        Check.feed(x, text.toString());
        x.text(5);
        due("trees(0) of " + text, x.trees(0), Hands.lit(minds) == 0 ? NONE : t);
        due("trees(1) of " + text, x.trees(1), Hands.lit(minds));
        due("trees(2) of " + text, x.trees(2), Hands.leastUnlit(minds));
    }

    private int[] treeBehindABreath(int[] minds, int[] above) {
        int[] next = new int[minds.length];
        for (int k = 0; k < minds.length; k++) {
            int right = NONE;
            for (int j = 0; j < minds.length; j++) {
                right = above[j] == k ? Math.max(right, minds[j]) : right;
            }
            next[k] = hands.says(minds[k], above[k] == NONE ? 8 : minds[above[k]], right == NONE ? 8 : right);
        }
        return next;
    }
}
