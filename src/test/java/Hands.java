import java.util.ArrayList;
import java.util.List;

/**
 * A book, and objects that have it: walls are set by hand and go on by single breaths. An object is made anew before its 512
 * calls are spent, so that as much can be asked as is wanted.
 */
final class Hands {
    private static final int CALLS = 512;

    /** Four lists of RULES, a text each. */
    final List<List<String>> book;
    private BeaconWall x = null;
    private int calls = 0;

    Hands(List<List<String>> book) {
        this.book = book;
    }

    static List<List<String>> emptyBook() {
        List<List<String>> book = new ArrayList<>();
        for (int p = 0; p < 4; p++) {
            book.add(new ArrayList<>());
        }
        return book;
    }

    static List<List<String>> copy(List<List<String>> book) {
        List<List<String>> copied = new ArrayList<>();
        for (List<String> page : book) {
            copied.add(new ArrayList<>(page));
        }
        return copied;
    }

    /** An object that has the book and can still be asked so often. */
    BeaconWall ready(int asked) {
        if (x == null || calls + asked > CALLS) {
            x = new BeaconWall();
            calls = tellBook(x, book);
        }
        calls += asked;
        return x;
    }

    /** How many calls it took. */
    static int tellBook(BeaconWall x, List<List<String>> book) {
        int spent = 0;
        for (int p = 0; p < 4; p++) {
            String text = String.join("", book.get(p));
            Check.feed(x, text);
            if (x.text(p) != book.get(p).size()) {
                throw new IllegalStateException("page " + p + " refused: " + text);
            }
            spent += text.length() / 20 + 3;
        }
        return spent;
    }

    /** The minds behind one breath, if they are these; deaf may be -1. */
    int[] breath(int[] minds, boolean ring, int deaf) {
        int n = minds.length;
        BeaconWall wall = ready(2 * n + 3);
        wall.wall(n, ring);
        for (int i = 0; i < n; i++) {
            wall.act(0, i, minds[i]);
        }
        if (deaf >= 0) {
            wall.act(1, deaf, 1);
        }
        wall.breaths(1);
        return mindsOf(wall, n);
    }

    static int[] mindsOf(BeaconWall wall, int n) {
        int[] minds = new int[n];
        for (int i = 0; i < n; i++) {
            minds[i] = wall.of(i, 0);
        }
        return minds;
    }

    int says(int own, int left, int right) {
        return ready(1).says(own, left, right, 0);
    }

    int decides(int own, int left, int right) {
        return ready(1).says(own, left, right, 1);
    }

    /** The minds behind 0, 1, 2 .. breaths of a run. */
    List<int[]> run(int n, int b, boolean ring) {
        List<int[]> rows = new ArrayList<>();
        rows.add(beginning(n, b));
        while (rows.size() <= 3 * n + 20 && lit(rows.get(rows.size() - 1)) == 0) {
            rows.add(breath(rows.get(rows.size() - 1), ring, -1));
        }
        return rows;
    }

    boolean isGood(int n, int b) {
        List<int[]> rows = run(n, b, false);
        return lit(rows.get(rows.size() - 1)) == n;
    }

    /** The first length to this one by which keeper 0 begins in vain, or -1. */
    int firstBad(int to) {
        for (int n = 1; n <= to; n++) {
            if (!isGood(n, 0)) {
                return n;
            }
        }
        return -1;
    }

    static int[] beginning(int n, int b) {
        int[] minds = new int[n];
        minds[b] = 1;
        return minds;
    }

    static int lit(int[] minds) {
        int count = 0;
        for (int mind : minds) {
            count += mind == 7 ? 1 : 0;
        }
        return count;
    }

    static int leastUnlit(int[] minds) {
        for (int i = 0; i < minds.length; i++) {
            if (minds[i] != 7) {
                return i;
            }
        }
        return -1;
    }
}
