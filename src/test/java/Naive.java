import java.util.ArrayList;
import java.util.Arrays;
import java.util.List;
import java.util.TreeSet;
import java.util.regex.Matcher;
import java.util.regex.Pattern;

/**
 * The document once more, written as plainly as can be and without a thought of speed, to compare with.
 * It shares nothing with the class; where both agree on a wrong reading, it can't tell.
 */
final class Naive {
    static final int NONE = -1;
    static final int FAR = -10000000;

    record Rule(TreeSet<Integer> own, TreeSet<Integer> left, TreeSet<Integer> right, int mind) {
        boolean fits(int o, int l, int r) {
            return own.contains(o) && left.contains(l) && right.contains(r);
        }

        int says(int o) {
            return mind == 8 ? o : mind;
        }
    }

    /** A book is a list of four lists of rules. */
    static final class World {
        List<List<Rule>> book = emptyBook();
        List<List<Rule>> other = emptyBook();
        List<int[]> plan = new ArrayList<>();
        List<int[]> tree = new ArrayList<>();
        List<int[]> log = new ArrayList<>();
        List<int[]> marks = new ArrayList<>();
        int n = 0;
        boolean ring = false;
        int[] mind = new int[0];
        int[] was = new int[0];
        int[] deaf = new int[0];
        int[] late = new int[0];
        int[] gate = new int[0];
        int breath = 0;
        int asked = 0;
        int first = NONE;
        int together = 0;

        World copy() {
            World w = new World();
            w.book = new ArrayList<>(book);
            w.other = new ArrayList<>(other);
            w.plan = new ArrayList<>(plan);
            w.tree = new ArrayList<>(tree);
            w.log = new ArrayList<>(log);
            w.marks = new ArrayList<>(marks);
            w.n = n;
            w.ring = ring;
            w.mind = mind.clone();
            w.was = was.clone();
            w.deaf = deaf.clone();
            w.late = late.clone();
            w.gate = gate.clone();
            w.breath = breath;
            w.asked = asked;
            w.first = first;
            w.together = together;
            return w;
        }

        void addLog(int a, int b, int c, int d) {
            if (log.size() < 150) {
                log.add(new int[] {a, b, c, d});
            }
        }

        /** Whom keeper i sees left (side -1) or right (side 1). */
        int seen(int i, int side) {
            int j = i + side;
            if (ring) {
                j = (j + n) % n;
            }
            if (j < 0 || j >= n) {
                return NONE;
            }
            int g = gate[side < 0 ? j : i];
            boolean shut = side < 0 ? g == 2 || g == 3 : g == 1 || g == 3;
            return shut ? NONE : j;
        }

        int sees(int i, int side) {
            int j = seen(i, side);
            if (j == NONE) {
                return 8;
            }
            return late[i] == 1 ? was[j] : mind[j];
        }

        void allAtOnce() {
            int[] next = mind.clone();
            for (int i = 0; i < n; i++) {
                if (deaf[i] == 1 || mind[i] == 7) {
                    continue;
                }
                int by = decides(book, mind[i], sees(i, -1), sees(i, 1));
                if (by != NONE) {
                    asked++;
                    next[i] = rule(book, by).says(mind[i]);
                }
            }
            was = mind;
            mind = next;
        }

        void act(int what, int who, int much) {
            switch (what) {
                case 0 -> mind[who] = much;
                case 1 -> deaf[who] = 1;
                case 2 -> deaf[who] = 0;
                case 3 -> late[who] = 1;
                case 4 -> late[who] = 0;
                default -> gate[who] = much;
            }
            addLog(breath, what, who, much);
        }

        void oneBreath() {
            for (int[] line : plan) {
                if (line[0] == breath && line[2] < n) {
                    act(line[1], line[2], line[3]);
                }
            }
            allAtOnce();
            int lit = lit();
            if (first == NONE && lit > 0) {
                first = breath;
                together = lit;
                int least = 0;
                while (mind[least] != 7) {
                    least++;
                }
                addLog(breath, 6, least, lit);
            }
            breath++;
        }

        int lit() {
            return (int) Arrays.stream(mind).filter(m -> m == 7).count();
        }
    }

    private World w = new World();
    private World image = null;
    private final List<World> past = new ArrayList<>();
    private StringBuilder tape = new StringBuilder();
    private int faultKind = 0;
    private int faultPlace = NONE;

    static List<List<Rule>> emptyBook() {
        List<List<Rule>> b = new ArrayList<>();
        for (int i = 0; i < 4; i++) {
            b.add(List.of());
        }
        return b;
    }

    static Rule rule(List<List<Rule>> book, int number) {
        return book.get(number / 24).get(number % 24);
    }

    static boolean exists(List<List<Rule>> book, int number) {
        return number >= 0 && number < 96 && number % 24 < book.get(number / 24).size();
    }

    static int decides(List<List<Rule>> book, int own, int left, int right) {
        if (own == 7) {
            return NONE;
        }
        for (int p = 0; p < 4; p++) {
            for (int i = 0; i < book.get(p).size(); i++) {
                if (book.get(p).get(i).fits(own, left, right)) {
                    return 24 * p + i;
                }
            }
        }
        return NONE;
    }

    static int answer(List<List<Rule>> book, int own, int left, int right) {
        for (List<Rule> page : book) {
            for (Rule r : page) {
                if (own != 7 && r.fits(own, left, right)) {
                    return r.says(own);
                }
            }
        }
        return own;
    }

    static int size(List<List<Rule>> book) {
        return book.stream().mapToInt(List::size).sum();
    }

    // ---- runs, as the list of all rows from the beginning to the last breath

    interface Neighbours {
        int left(int[] row, int i);

        int right(int[] row, int i);
    }

    static Neighbours row(int n) {
        return new Neighbours() {
            public int left(int[] row, int i) {
                return i == 0 ? 8 : row[i - 1];
            }

            public int right(int[] row, int i) {
                return i == n - 1 ? 8 : row[i + 1];
            }
        };
    }

    static Neighbours circle(int n) {
        return new Neighbours() {
            public int left(int[] row, int i) {
                return row[(i + n - 1) % n];
            }

            public int right(int[] row, int i) {
                return row[(i + 1) % n];
            }
        };
    }

    static int[] next(List<List<Rule>> book, int[] row, Neighbours see) {
        int[] next = new int[row.length];
        for (int i = 0; i < row.length; i++) {
            next[i] = answer(book, row[i], see.left(row, i), see.right(row, i));
        }
        return next;
    }

    static int litIn(int[] row) {
        return (int) Arrays.stream(row).filter(m -> m == 7).count();
    }

    static List<int[]> history(List<List<Rule>> book, int n, int b, Neighbours see) {
        List<int[]> all = new ArrayList<>();
        int[] row = new int[n];
        row[b] = 1;
        all.add(row);
        while (all.size() <= 3 * n + 20 && litIn(row) == 0) {
            row = next(book, row, see);
            all.add(row);
        }
        return all;
    }

    static List<int[]> history(List<List<Rule>> book, int n, int b) {
        return history(book, n, b, row(n));
    }

    static int[] last(List<int[]> all) {
        return all.get(all.size() - 1);
    }

    static boolean good(List<int[]> all) {
        return litIn(last(all)) == last(all).length;
    }

    static int outcome(List<int[]> all, int what) {
        int[] row = last(all);
        if (what == 0) {
            return litIn(row) == 0 ? NONE : all.size() - 1;
        }
        if (what == 1) {
            return litIn(row);
        }
        if (what == 2) {
            for (int i = 0; i < row.length; i++) {
                if (row[i] != 7) {
                    return i;
                }
            }
        }
        return NONE;
    }

    static int firstBad(List<List<Rule>> book, int to) {
        for (int n = 1; n <= to; n++) {
            if (!good(history(book, n, 0))) {
                return n;
            }
        }
        return NONE;
    }

    static boolean run(int n, int b) {
        return n >= 1 && n <= 32 && b >= 0 && b < n;
    }

    static boolean in(int v, int a, int b) {
        return a <= v && v <= b;
    }

    static int pick(int what, int... of) {
        return what >= 0 && what < of.length ? of[what] : NONE;
    }

    // ---- the face

    boolean wall(int n, boolean round) {
        if (!in(n, 0, 32)) {
            return false;
        }
        w.n = n;
        w.ring = round;
        w.mind = new int[n];
        w.was = new int[n];
        w.deaf = new int[n];
        w.late = new int[n];
        w.gate = new int[n];
        w.breath = 0;
        w.asked = 0;
        w.first = NONE;
        w.together = 0;
        past.clear();
        return true;
    }

    private void keep() {
        past.add(w.copy());
        if (past.size() > 6) {
            past.remove(0);
        }
    }

    boolean act(int what, int who, int v) {
        int[] most = {7, 1, 1, 3};
        if (!in(what, 0, 3) || !in(who, 0, w.n - 1) || !in(v, 0, most[what])) {
            return false;
        }
        keep();
        switch (what) {
            case 0 -> w.act(0, who, v);
            case 1 -> w.act(v == 1 ? 1 : 2, who, 0);
            case 2 -> w.act(v == 1 ? 3 : 4, who, 0);
            default -> w.act(5, who, v);
        }
        return true;
    }

    int breaths(int n) {
        if (!in(n, 1, 60) || w.breath + n > 9999) {
            return NONE;
        }
        for (int i = 0; i < n; i++) {
            keep();
            w.oneBreath();
        }
        return w.lit();
    }

    int feed(int a, int b, int c, int d, int e) {
        if (tape.length() + 20 > 400) {
            return NONE;
        }
        for (int x : new int[] {a, b, c, d, e}) {
            tape.append((char) (x >>> 24)).append((char) (x >>> 16 & 255)).append((char) (x >>> 8 & 255)).append((char) (x & 255));
        }
        return tape.length();
    }

    boolean end(int n) {
        if (n < 0 || n > tape.length()) {
            return false;
        }
        tape.setLength(n);
        return true;
    }

    record Token(String kind, int value, int at) { }

    static final class Fault extends Exception {
        private static final long serialVersionUID = 1L;
        final int kind;
        final int place;

        Fault(int kind, int place) {
            this.kind = kind;
            this.place = place;
        }
    }

    private static List<Token> tokens(String text, List<String> words) {
        List<Token> all = new ArrayList<>();
        Matcher m = Pattern.compile("[a-zA-Z]+|[0-9]+|[;,>]|[ \n]+|.", Pattern.DOTALL).matcher(text);
        while (m.find()) {
            String s = m.group();
            if (s.isBlank() && s.matches("[ \n]+")) {
                continue;
            }
            if (s.matches("[0-9]{1,4}")) {
                all.add(new Token("#", Integer.parseInt(s), m.start()));
            } else if (words.contains(s) || s.matches("[;,>]")) {
                all.add(new Token(s, 0, m.start()));
            } else {
                all.add(new Token("?", 0, m.start()));
            }
        }
        all.add(new Token("", 0, text.length()));
        return all;
    }

    private List<Token> toks;
    private int at;

    private String kind() {
        return toks.get(at).kind();
    }

    private boolean have(String k) {
        if (kind().equals(k)) {
            at++;
            return true;
        }
        return false;
    }

    private void need(String k) throws Fault {
        if (!have(k)) {
            throw new Fault(1, toks.get(at).at());
        }
    }

    private int number(int a, int b) throws Fault {
        Token t = toks.get(at);
        need("#");
        if (!in(t.value(), a, b)) {
            throw new Fault(2, t.at());
        }
        return t.value();
    }

    private TreeSet<Integer> pattern(int line) throws Fault {
        int place = toks.get(at).at();
        TreeSet<Integer> all = new TreeSet<>(List.of(0, 1, 2, 3, 4, 5, 6, 7, 8));
        if (have("any")) {
            tooMany(line, 24, place);
            return all;
        }
        boolean not = have("not");
        if (not) {
            tooMany(line, 24, place);
        }
        TreeSet<Integer> set = new TreeSet<>();
        do {
            set.add(have("end") ? 8 : number(0, 7));
            tooMany(line, 24, place);
        } while (have(","));
        if (!not) {
            return set;
        }
        all.removeAll(set);
        return all;
    }

    private static void tooMany(int line, int most, int place) throws Fault {
        if (line >= most) {
            throw new Fault(3, place);
        }
    }

    int text(int k) {
        String s = tape.toString();
        tape = new StringBuilder();
        faultKind = 0;
        faultPlace = NONE;
        if (!in(k, 0, 5)) {
            return NONE;
        }
        try {
            at = 0;
            if (k < 4) {
                toks = tokens(s, List.of("any", "not", "end", "same"));
                List<Rule> page = readPage();
                w.book.set(k, page);
                past.clear();
                return page.size();
            }
            if (k == 4) {
                toks = tokens(s, List.of("at", "tell", "deaf", "wake", "late", "soon", "gate"));
                w.plan = readPlan();
                past.clear();
                return w.plan.size();
            }
            toks = tokens(s, List.of("keeper", "below"));
            w.tree = readTree();
            return w.tree.size();
        } catch (Fault f) {
            faultKind = f.kind;
            faultPlace = f.place;
            return NONE;
        }
    }

    private List<Rule> readPage() throws Fault {
        List<Rule> page = new ArrayList<>();
        while (!kind().isEmpty()) {
            TreeSet<Integer> own = pattern(page.size());
            TreeSet<Integer> left = pattern(0);
            TreeSet<Integer> right = pattern(0);
            need(">");
            int mind = have("same") ? 8 : number(0, 7);
            need(";");
            page.add(new Rule(own, left, right, mind));
        }
        return page;
    }

    private List<int[]> readPlan() throws Fault {
        List<int[]> lines = new ArrayList<>();
        List<String> deeds = List.of("tell", "deaf", "wake", "late", "soon", "gate");
        while (!kind().isEmpty()) {
            int place = toks.get(at).at();
            need("at");
            tooMany(lines.size(), 16, place);
            int breath = number(0, 999);
            int what = deeds.indexOf(kind());
            if (what < 0) {
                throw new Fault(1, toks.get(at).at());
            }
            at++;
            int keeper = number(0, 31);
            int much = what == 0 ? number(0, 7) : what == 5 ? number(0, 3) : 0;
            need(";");
            lines.add(new int[] {breath, what, keeper, much});
        }
        return lines;
    }

    private List<int[]> readTree() throws Fault {
        List<int[]> lines = new ArrayList<>();
        while (!kind().isEmpty()) {
            int place = toks.get(at).at();
            need("keeper");
            tooMany(lines.size(), 16, place);
            int numberAt = toks.get(at).at();
            int keeper = number(1, 15);
            for (int[] line : lines) {
                if (line[0] == keeper) {
                    throw new Fault(2, numberAt);
                }
            }
            need("below");
            int aboveAt = toks.get(at).at();
            int above = number(0, 14);
            if (above >= keeper) {
                throw new Fault(2, aboveAt);
            }
            need(";");
            lines.add(new int[] {keeper, above});
        }
        return lines;
    }

    int fault(int what) {
        return pick(what, faultKind, faultPlace);
    }

    int of(int keeper, int what) {
        if (!in(keeper, 0, w.n - 1)) {
            return NONE;
        }
        return pick(what, w.mind[keeper], w.was[keeper], w.deaf[keeper], w.late[keeper], w.gate[keeper],
            w.sees(keeper, -1), w.sees(keeper, 1));
    }

    int says(int own, int left, int right, int what) {
        if (!in(own, 0, 7) || !in(left, 0, 8) || !in(right, 0, 8)) {
            return NONE;
        }
        return pick(what, answer(w.book, own, left, right), decides(w.book, own, left, right));
    }

    int log(int i, int what) {
        return in(i, 0, w.log.size() - 1) ? pick(what, w.log.get(i)) : NONE;
    }

    int fires(int n, int b, int what) {
        return run(n, b) ? outcome(history(w.book, n, b), what) : NONE;
    }

    int works(int to, int what) {
        if (!in(to, 1, 24)) {
            return NONE;
        }
        int n = firstBad(w.book, to);
        return n == NONE ? NONE : pick(what, n, fires(n, 0, 0), fires(n, 0, 2));
    }

    int soon(int n, int b, int what) {
        if (!run(n, b) || !in(what, 0, 1)) {
            return -100;
        }
        int least = 2 * n - 2 - Math.min(b, n - 1 - b);
        int when = fires(n, b, 0);
        return what == 0 ? least : when == NONE ? -100 : when - least;
    }

    int used(int to, int what) {
        if (!in(to, 1, 24)) {
            return NONE;
        }
        TreeSet<Integer> deciding = new TreeSet<>();
        int minds = 0;
        for (int n = 1; n <= to; n++) {
            List<int[]> all = history(w.book, n, 0);
            for (int t = 0; t < all.size(); t++) {
                for (int i = 0; i < n; i++) {
                    minds |= 1 << all.get(t)[i];
                    if (t + 1 < all.size()) {
                        int[] r = all.get(t);
                        deciding.add(decides(w.book, r[i], row(n).left(r, i), row(n).right(r, i)));
                    }
                }
            }
        }
        deciding.remove(NONE);
        return pick(what, deciding.size(), leastNotIn(deciding), minds);
    }

    private int leastNotIn(TreeSet<Integer> set) {
        for (int i = 0; i < 96; i++) {
            if (exists(w.book, i) && !set.contains(i)) {
                return i;
            }
        }
        return NONE;
    }

    private List<List<Rule>> withRule(int number, Rule r) {
        List<List<Rule>> b = new ArrayList<>(w.book);
        List<Rule> page = new ArrayList<>(b.get(number / 24));
        if (r == null) {
            page.remove(number % 24);
        } else {
            page.set(number % 24, r);
        }
        b.set(number / 24, page);
        return b;
    }

    int worn(int rule, int to) {
        return exists(w.book, rule) && in(to, 1, 24) ? firstBad(withRule(rule, null), to) : NONE;
    }

    int mends(int rule, int to) {
        if (!exists(w.book, rule) || !in(to, 1, 24)) {
            return NONE;
        }
        int set = 0;
        Rule r = rule(w.book, rule);
        for (int m = 0; m <= 8; m++) {
            if (firstBad(withRule(rule, new Rule(r.own(), r.left(), r.right(), m)), to) == NONE) {
                set |= 1 << m;
            }
        }
        return set;
    }

    int more(int to, int what) {
        if (!in(to, 1, 8)) {
            return NONE;
        }
        int count = 0;
        int least = NONE;
        for (int own = 0; own < 7; own++) {
            for (int l = 0; l < 9; l++) {
                for (int r = 0; r < 9; r++) {
                    for (int m = 0; m < 8; m++) {
                        if (m != answer(w.book, own, l, r) && worksWith(own, l, r, m, to)) {
                            least = count == 0 ? 1000 * own + 100 * l + 10 * r + m : least;
                            count++;
                        }
                    }
                }
            }
        }
        return pick(what, count, least);
    }

    private boolean worksWith(int own, int l, int r, int m, int to) {
        List<List<Rule>> b = new ArrayList<>(w.book);
        List<Rule> page = new ArrayList<>(b.get(0));
        page.add(0, new Rule(new TreeSet<>(List.of(own)), new TreeSet<>(List.of(l)), new TreeSet<>(List.of(r)), m));
        b.set(0, page);
        return firstBad(b, to) == NONE;
    }

    int two(int to, int d) {
        if (!in(to, 2, 24) || !in(d, 0, 40)) {
            return NONE;
        }
        for (int n = 2; n <= to; n++) {
            int[] row = new int[n];
            row[0] = 1;
            for (int done = 0; done < 3 * n + 20 && litIn(row) == 0; done++) {
                if (done == d) {
                    row[n - 1] = 1;
                }
                row = next(w.book, row, row(n));
            }
            if (litIn(row) != n) {
                return n;
            }
        }
        return NONE;
    }

    int deafened(int n, int k, int what) {
        if (!run(n, k)) {
            return NONE;
        }
        int[] row = new int[n];
        row[0] = 1;
        int most = 0;
        int when = NONE;
        for (int breath = 1; breath <= 3 * n + 20; breath++) {
            int[] then = next(w.book, row, row(n));
            then[k] = row[k];
            int come = litIn(then) - litIn(row);
            if (come > most) {
                most = come;
                when = breath;
            }
            row = then;
        }
        return pick(what, most, when);
    }

    int ring(int n, int b, int what) {
        return run(n, b) ? outcome(history(w.book, n, b, circle(n)), what) : NONE;
    }

    int trees(int what) {
        int m = 0;
        for (int[] line : w.tree) {
            m = Math.max(m, line[0]);
        }
        Neighbours see = new Neighbours() {
            public int left(int[] row, int i) {
                for (int[] line : w.tree) {
                    if (line[0] == i) {
                        return row[line[1]];
                    }
                }
                return 8;
            }

            public int right(int[] row, int i) {
                int greatest = NONE;
                for (int[] line : w.tree) {
                    if (line[1] == i) {
                        greatest = Math.max(greatest, row[line[0]]);
                    }
                }
                return greatest == NONE ? 8 : greatest;
            }
        };
        return outcome(history(w.book, m + 1, 0, see), what);
    }

    int keeps() {
        w.other = new ArrayList<>(w.book);
        return size(w.other);
    }

    int alike(int to, int what) {
        if (!in(to, 1, 24)) {
            return NONE;
        }
        for (int n = 1; n <= to; n++) {
            List<int[]> one = history(w.book, n, 0);
            List<int[]> two = history(w.other, n, 0);
            for (int t = 0; t < Math.min(one.size(), two.size()); t++) {
                int i = Arrays.mismatch(one.get(t), two.get(t));
                if (i >= 0) {
                    return pick(what, n, t, i);
                }
            }
        }
        return NONE;
    }

    int picture(int n, int b, int t, int k) {
        if (!run(n, b) || !run(n, k) || !in(t, 0, 116)) {
            return NONE;
        }
        List<int[]> all = history(w.book, n, b);
        return all.get(Math.min(t, all.size() - 1))[k];
    }

    int mark(int n, int b, int mind, int k) {
        if (!run(n, b) || !run(n, k)) {
            return NONE;
        }
        List<int[]> all = history(w.book, n, b);
        for (int t = 0; t < all.size(); t++) {
            if (all.get(t)[k] == mind) {
                return t;
            }
        }
        return NONE;
    }

    /** Counted by trying every row: for walls of up to five alone. */
    int before() {
        if (w.n == 0) {
            return NONE;
        }
        int count = 0;
        for (int code = 0; code < 1 << 3 * w.n; code++) {
            int[] row = new int[w.n];
            for (int i = 0; i < w.n; i++) {
                row[i] = code >> 3 * i & 7;
            }
            if (Arrays.equals(next(w.book, row, row(w.n)), w.mind)) {
                count++;
            }
        }
        return count;
    }

    int keepers() {
        return w.n;
    }

    int round(int what) {
        World v = w.copy();
        List<String> seen = new ArrayList<>();
        for (int t = 0; t <= 2000; t++) {
            String now = Arrays.toString(v.mind) + Arrays.toString(v.was);
            if (seen.contains(now)) {
                return pick(what, t, t - seen.indexOf(now));
            }
            seen.add(now);
            v.allAtOnce();
        }
        return NONE;
    }

    int heard(int k, int j, int t) {
        if (!in(k, 0, w.n - 1) || !in(j, NONE, w.n - 1) || j == NONE && !in(t, 0, 200)) {
            return NONE;
        }
        int[] since = new int[w.n];
        Arrays.fill(since, 1000);
        since[k] = 0;
        for (int now = 1; now <= 200; now++) {
            for (int i = 0; i < w.n; i++) {
                int delay = w.late[i] == 1 ? 2 : 1;
                for (int side = -1; side <= 1; side += 2) {
                    int seen = w.seen(i, side);
                    if (w.deaf[i] == 0 && seen != NONE && since[seen] + delay == now) {
                        since[i] = Math.min(since[i], now);
                    }
                }
            }
        }
        if (j != NONE) {
            return since[j] == 1000 ? NONE : since[j];
        }
        return (int) Arrays.stream(since).filter(s -> s <= t).count();
    }

    int enough(int to) {
        if (!in(to, 1, 24)) {
            return NONE;
        }
        for (int size = 0; size <= 4; size++) {
            for (int set = 0; set < 16; set++) {
                if (Integer.bitCount(set) != size) {
                    continue;
                }
                List<List<Rule>> b = emptyBook();
                for (int p = 0; p < 4; p++) {
                    if ((set >> p & 1) == 1) {
                        b.set(p, w.book.get(p));
                    }
                }
                if (firstBad(b, to) == NONE) {
                    return set;
                }
            }
        }
        return NONE;
    }

    int quiet(int what) {
        int alike = 0;
        int alone = 0;
        for (int m = 0; m < 8; m++) {
            alike |= answer(w.book, m, m, m) == m ? 1 << m : 0;
            alone |= answer(w.book, m, 8, 8) == m ? 1 << m : 0;
        }
        return pick(what, alike, alone);
    }

    int rules(int what) {
        int clash = 0;
        TreeSet<Integer> deciding = new TreeSet<>();
        int unlike = 0;
        for (int a = 0; a < 96; a++) {
            for (int b = a + 1; b < 96; b++) {
                if (exists(w.book, a) && exists(w.book, b) && clash(rule(w.book, a), rule(w.book, b))) {
                    clash++;
                }
            }
        }
        for (int own = 0; own < 8; own++) {
            for (int l = 0; l < 9; l++) {
                for (int r = 0; r < 9; r++) {
                    deciding.add(decides(w.book, own, l, r));
                    unlike += answer(w.book, own, l, r) != answer(w.book, own, r, l) ? 1 : 0;
                }
            }
        }
        deciding.remove(NONE);
        return pick(what, clash, size(w.book) - deciding.size(), leastNotIn(deciding), unlike == 0 ? 1 : 0, unlike);
    }

    private static boolean clash(Rule a, Rule b) {
        for (int own = 0; own < 7; own++) {
            for (int l = 0; l < 9; l++) {
                for (int r = 0; r < 9; r++) {
                    if (a.fits(own, l, r) && b.fits(own, l, r) && a.says(own) != b.says(own)) {
                        return true;
                    }
                }
            }
        }
        return false;
    }

    int goes(int p, int s, int a, int b) {
        if (p == NONE) {
            w.marks.clear();
            return 0;
        }
        if (!in(p, 0, 99) || !in(s, 0, 99) || !in(a, -9, 9) || !in(b, 1, 9) || w.marks.size() == 8) {
            return NONE;
        }
        w.marks.add(new int[] {p, s, a, b});
        return w.marks.size();
    }

    /** Sought among all fractions with a small number below, place by place. */
    int meets(int i, int j, int what) {
        int m = w.marks.size();
        if (i == j || !in(i, 0, m - 1) || !in(j, 0, m - 1) || !in(what, 0, 3)) {
            return FAR;
        }
        int[] x = w.marks.get(i);
        int[] y = w.marks.get(j);
        // x's place at breath t is (x0 t + x1) / x3, with x0 = a and x1 = p b - a s.
        long x1 = (long) x[0] * x[3] - (long) x[2] * x[1];
        long y1 = (long) y[0] * y[3] - (long) y[2] * y[1];
        long above = y1 * x[3] - x1 * y[3];
        long below = (long) x[2] * y[3] - (long) y[2] * x[3];
        if (below == 0) {
            return FAR;
        }
        long[] t = lowest(above, below);
        long[] place = lowest(x[2] * t[0] + x1 * t[1], x[3] * t[1]);
        return (int) (what < 2 ? t[what] : place[what - 2]);
    }

    private static long[] lowest(long above, long below) {
        long a = below < 0 ? -above : above;
        long b = Math.abs(below);
        for (long d = b; d > 1; d--) {
            if (b % d == 0 && a % d == 0) {
                return new long[] {a / d, b / d};
            }
        }
        return new long[] {a, b};
    }

    /** Walked in steps of one b-th, turning at the ends. */
    int echo(int i, int n, int t, int what) {
        if (!in(i, 0, w.marks.size() - 1) || !in(n, 2, 99) || !in(t, 0, 999) || !in(what, 0, 1)) {
            return FAR;
        }
        int[] x = w.marks.get(i);
        if (x[0] > n - 1) {
            return FAR;
        }
        int at = x[0] * x[3];
        int end = (n - 1) * x[3];
        int way = x[2] < 0 ? -1 : 1;
        for (int step = 0; step < Math.abs(x[2]) * t; step++) {
            if (at + way < 0 || at + way > end) {
                way = -way;
            }
            at += way;
        }
        return (int) lowest(at, x[3])[what];
    }

    int lights(int n, int lit, int what) {
        if (!in(n, 1, 12) || !in(lit, 0, (1 << n) - 1)) {
            return NONE;
        }
        int best = NONE;
        for (int set = (1 << n) - 1; set >= 0; set--) {
            int now = lit;
            for (int i = 0; i < n; i++) {
                for (int j = i - 1; j <= i + 1; j++) {
                    if ((set >> i & 1) == 1 && in(j, 0, n - 1)) {
                        now ^= 1 << j;
                    }
                }
            }
            if (now == (1 << n) - 1 && (best == NONE || Integer.bitCount(set) <= Integer.bitCount(best))) {
                best = set;
            }
        }
        return best == NONE ? NONE : pick(what, Integer.bitCount(best), best);
    }

    int stir(int n, int b, int what) {
        if (!run(n, b)) {
            return NONE;
        }
        List<int[]> all = history(w.book, n, b);
        int still = 0;
        int most = 0;
        int when = NONE;
        for (int t = 1; t < all.size(); t++) {
            int changed = 0;
            for (int i = 0; i < n; i++) {
                changed += all.get(t)[i] != all.get(t - 1)[i] ? 1 : 0;
            }
            still += changed == 0 ? 1 : 0;
            if (changed > most) {
                most = changed;
                when = t;
            }
        }
        return pick(what, still, most, when);
    }

    int crowd(int n, int b, int mind, int what) {
        if (!run(n, b) || !in(mind, 0, 7)) {
            return NONE;
        }
        List<int[]> all = history(w.book, n, b);
        int most = NONE;
        int when = NONE;
        TreeSet<Integer> ever = new TreeSet<>();
        for (int t = 0; t < all.size(); t++) {
            int have = 0;
            for (int i = 0; i < n; i++) {
                if (all.get(t)[i] == mind) {
                    have++;
                    ever.add(i);
                }
            }
            if (have > most) {
                most = have;
                when = t;
            }
        }
        return pick(what, most, when, ever.size());
    }

    int begun(int n, int what) {
        if (!in(n, 1, 32)) {
            return NONE;
        }
        int good = 0;
        int bad = NONE;
        int shortest = NONE;
        for (int b = n - 1; b >= 0; b--) {
            if (!good(history(w.book, n, b))) {
                bad = b;
                continue;
            }
            good++;
            if (shortest == NONE || fires(n, b, 0) <= fires(n, shortest, 0)) {
                shortest = b;
            }
        }
        return pick(what, good, bad, shortest);
    }

    int mixed(int to, int what) {
        if (!in(to, 1, 24)) {
            return NONE;
        }
        int count = 0;
        int least = NONE;
        for (int set = 15; set >= 0; set--) {
            List<List<Rule>> b = new ArrayList<>();
            for (int p = 0; p < 4; p++) {
                b.add((set >> p & 1) == 1 ? w.other.get(p) : w.book.get(p));
            }
            if (firstBad(b, to) == NONE) {
                count++;
                least = set;
            }
        }
        return pick(what, count, least);
    }

    int unlike(int p, int q, int what) {
        if (!in(p, 0, 3) || !in(q, 0, 3)) {
            return NONE;
        }
        List<List<Rule>> one = emptyBook();
        List<List<Rule>> two = emptyBook();
        one.set(p, w.book.get(p));
        two.set(q, w.book.get(q));
        int count = 0;
        int least = NONE;
        for (int c = 699; c >= 0; c--) {
            if (c / 10 % 10 == 9 || c % 10 == 9) {
                continue;
            }
            if (answer(one, c / 100, c / 10 % 10, c % 10) != answer(two, c / 100, c / 10 % 10, c % 10)) {
                count++;
                least = c;
            }
        }
        return pick(what, count, least);
    }

    boolean undo() {
        if (past.isEmpty()) {
            return false;
        }
        World then = past.remove(past.size() - 1);
        World now = w;
        w = then;
        // The TREE, the marks and the kept book are not undone.
        w.tree = now.tree;
        w.marks = now.marks;
        w.other = now.other;
        return true;
    }

    boolean image(boolean taken) {
        if (taken) {
            image = w.copy();
            return true;
        }
        if (image == null) {
            return false;
        }
        w = image.copy();
        past.clear();
        return true;
    }

    int look(int what) {
        return pick(what, w.n, w.ring ? 1 : 0, w.breath, w.asked, w.first, w.together, w.lit(), w.log.size(),
            w.book.get(0).size(), w.book.get(1).size(), w.book.get(2).size(), w.book.get(3).size(),
            w.plan.size(), w.tree.size(), size(w.other), past.size());
    }
}
