import java.math.BigInteger;

/** Promises 16 to 18, 24, 27, 30, 33 to 36 and 40: other books, other walls, marks and lamps in thought. */
public final class TrialTest {
    private static final Check CHECK = new Check("TrialTest");
    private static final int FAR = -10000000;
    private static final String ALL = "any any any>7;";
    /** GOOD for every length; its rules are asked first at the lengths 4, 2, 3, 1, 1. */
    private static final String LINES = "0 0 0>2;0 1 any>2;0 0 end>2;1 any any>2;2 any any>7;";

    /** Keeper 0 counts six breaths, keeper 1 how often. */
    private static final String CLOCK = "1 end any>2;2 end any>3;3 end any>4;4 end any>5;5 end any>6;6 end any>1;"
        + "0 6 any>1;1 6 any>2;2 6 any>3;3 6 any>4;";

    public static void main(String[] args) {
        worn();
        mends();
        more();
        alike();
        enough();
        mixed();
        before();
        goes();
        meets();
        echo();
        lights();
        CHECK.finish();
    }

    private static BeaconWall with(int k, String page) {
        BeaconWall x = new BeaconWall();
        Check.feed(x, page);
        x.text(k);
        return x;
    }

    private static void worn() {
        BeaconWall x = with(1, LINES + "6 any any>5;");
        int[] first = {4, 2, 3, 1, 1, -1};
        for (int i = 0; i < 6; i++) {
            CHECK.due("worn(" + (24 + i) + ", 24)", x.worn(24 + i, 24), first[i]);
        }
        CHECK.due("to 3 alone", x.worn(24, 3), -1);
        CHECK.due("no such rule", x.worn(30, 24), -1);
        CHECK.due("no such rule", x.worn(0, 24), -1);
        CHECK.due("no such rule", x.worn(-1, 24), -1);
        CHECK.due("no such rule", x.worn(96, 24), -1);
        CHECK.due("worn(24, 25)", x.worn(27, 25), -1);
        CHECK.due("worn(24, 0)", x.worn(27, 0), -1);
        CHECK.due("nothing of it stays", x.works(24, 0), -1);
        Check.feed(x, "any any any>1;");
        x.text(0);
        CHECK.due("a later rule takes its place", x.worn(0, 24), -1);
        x = with(3, "0 0 0>1;".repeat(23) + ALL);
        CHECK.due("the last rule of all", x.worn(95, 24), 1);
        CHECK.due("the last rule of all", x.mends(95, 3), 1 << 7);
    }

    private static void mends() {
        BeaconWall x = with(0, LINES + "6 any any>5;");
        CHECK.due("its own alone", x.mends(0, 24), 1 << 2);
        CHECK.due("rule 0 is not asked to 3", x.mends(0, 3), 511);
        CHECK.due("its own alone", x.mends(4, 24), 1 << 7);
        CHECK.due("one alone may light at once", x.mends(3, 1), 1 << 2 | 1 << 7);
        CHECK.due("never asked", x.mends(5, 24), 511);
        CHECK.due("no such rule", x.mends(6, 24), -1);
        CHECK.due("no such rule", x.mends(-1, 24), -1);
        CHECK.due("mends(0, 25)", x.mends(0, 25), -1);
        CHECK.due("mends(0, 0)", x.mends(0, 0), -1);
        x = with(3, "0,1 any any>3;2 any any>7;");
        CHECK.due("two mend it", x.mends(72, 24), 1 << 2 | 1 << 7);
        CHECK.due("none mends it", x.mends(73, 24), 0);
        x = with(0, "1 end any>2;2 end any>7;0 2 end>7;0 0 0>1;");
        CHECK.due("same, too", x.mends(3, 2), 511);
        x = with(0, "1 end end>7;0 1 end>5;1 any 0>2;0 2 any>7;2 any any>7;");
        CHECK.due("same mends it", x.mends(1, 2), 1 << 0 | 1 << 2 | 1 << 8);
    }

    private static void more() {
        BeaconWall x = new BeaconWall();
        CHECK.due("an empty book", x.more(1, 0), 1);
        CHECK.due("1 end end > 7", x.more(1, 1), 1887);
        CHECK.due("to 2 none", x.more(2, 0), 0);
        CHECK.due("to 2 none", x.more(2, 1), -1);
        CHECK.due("more(0, 0)", x.more(0, 0), -1);
        CHECK.due("more(9, 0)", x.more(9, 0), -1);
        CHECK.due("more(1, 2)", x.more(1, 2), -1);
        x = with(2, ALL);
        // One alone who gets another mind at first lights a breath later: only to stay as he is spoils it.
        CHECK.due("six cases are asked", x.more(8, 0), 7 * (567 - 5) - 1);
        CHECK.due("the least", x.more(8, 1), 10);
        CHECK.due("one case is asked", x.more(1, 0), 7 * 567 - 1);
        CHECK.due("0 0 0 > 0", x.more(1, 1), 0);
        x = with(0, "0 0 0>5;" + ALL);
        CHECK.due("works to 3", x.more(3, 0), 7 * (567 - 4) - 1);
        CHECK.due("one mends it", x.more(8, 0), 1);
        CHECK.due("0 0 0 > 7", x.more(8, 1), 7);
        CHECK.due("nothing of it stays", x.works(8, 0), 4);
    }

    private static void alike() {
        BeaconWall x = with(0, LINES);
        CHECK.due("other than an empty one", x.alike(24, 0), 1);
        CHECK.due("behind one breath", x.alike(24, 1), 1);
        CHECK.due("keeper 0", x.alike(24, 2), 0);
        x.keeps();
        CHECK.due("alike", x.alike(24, 0), -1);
        CHECK.due("alike", x.alike(24, 1), -1);
        CHECK.due("alike", x.alike(24, 2), -1);
        CHECK.due("alike(25, 0)", x.alike(25, 0), -1);
        CHECK.due("alike(0, 0)", x.alike(0, 0), -1);
        Check.feed(x, LINES.substring(8));
        x.text(0);
        CHECK.due("from 4 on", x.alike(24, 0), 4);
        CHECK.due("behind one", x.alike(24, 1), 1);
        CHECK.due("keeper 2", x.alike(24, 2), 2);
        CHECK.due("to 3", x.alike(3, 0), -1);
        CHECK.due("alike(24, 3)", x.alike(24, 3), -1);
        x = with(0, "1 any any>7;");
        x.keeps();
        Check.feed(x, "1 any any>7;0 7 any>3;");
        x.text(0);
        CHECK.due("till a fire is lit", x.alike(24, 0), -1);
        x = with(0, "1 any any>2;2 any any>3;3 any any>4;");
        x.keeps();
        Check.feed(x, "1 any any>2;2 any any>3;3 any any>4;4 end end>5;");
        x.text(0);
        CHECK.due("behind four", x.alike(1, 1), 4);
        x = with(0, CLOCK);
        x.keeps();
        Check.feed(x, "4 2 end>5;");
        x.text(1);
        CHECK.due("at the last breath", x.alike(2, 1), 26);
        CHECK.due("the second keeper", x.alike(2, 2), 1);
        Check.feed(x, "4 3 end>5;");
        x.text(1);
        CHECK.due("a breath later", x.alike(2, 0), -1);
    }

    private static void enough() {
        BeaconWall x = with(2, ALL);
        Check.feed(x, "0,1 any any>2;");
        x.text(0);
        Check.feed(x, "2 any any>7;");
        x.text(1);
        CHECK.due("page 2 alone", x.enough(24), 4);
        Check.feed(x, ALL);
        x.text(3);
        CHECK.due("of several the least", x.enough(24), 4);
        Check.feed(x, "");
        x.text(2);
        CHECK.due("page 3 alone", x.enough(24), 8);
        x.text(3);
        CHECK.due("pages 0 and 1", x.enough(24), 3);
        x.text(0);
        CHECK.due("none", x.enough(24), -1);
        CHECK.due("enough(0)", x.enough(0), -1);
        CHECK.due("enough(25)", x.enough(25), -1);
    }

    private static void mixed() {
        BeaconWall x = with(0, ALL);
        x.keeps();
        Check.feed(x, "0,1 any any>2;");
        x.text(0);
        Check.feed(x, "2 any any>7;");
        x.text(1);
        CHECK.due("all but 2 and 2 + others", x.mixed(24, 0), 12);
        CHECK.due("the least", x.mixed(24, 1), 0);
        Check.feed(x, "");
        x.text(1);
        CHECK.due("with page 0 of the other", x.mixed(24, 0), 8);
        CHECK.due("the least", x.mixed(24, 1), 1);
        x.keeps();
        CHECK.due("none", x.mixed(24, 0), 0);
        CHECK.due("none", x.mixed(24, 1), -1);
        CHECK.due("mixed(24, 2)", x.mixed(24, 2), -1);
        CHECK.due("mixed(0, 0)", x.mixed(0, 0), -1);
        CHECK.due("mixed(25, 0)", x.mixed(25, 0), -1);
    }

    private static void before() {
        BeaconWall x = new BeaconWall();
        CHECK.due("no KEEPERS", x.before(), -1);
        x.wall(32, true);
        CHECK.due("itself alone", x.before(), 1);
        Check.feed(x, "0 any any>1;");
        x.text(0);
        CHECK.due("none can be 0", x.before(), 0);
        for (int i = 0; i < 32; i++) {
            x.act(0, i, 1);
        }
        x.act(1, 0, 1);
        x.act(2, 1, 1);
        x.act(3, 1, 3);
        CHECK.due("2 to the 32", x.before(), power(2, 32));
        Check.feed(x, ALL);
        x.text(0);
        for (int i = 0; i < 32; i++) {
            x.act(0, i, 7);
        }
        CHECK.due("8 to the 32", x.before(), power(8, 32));
        Check.feed(x, "0 1 any>1;0 any end>3;");
        x.text(0);
        x.wall(2, false);
        x.act(0, 0, 1);
        x.act(0, 1, 1);
        CHECK.due("1 1 and 1 0", x.before(), 2);
        x.act(0, 1, 3);
        CHECK.due("1 3; 1 0 becomes 1 1", x.before(), 1);
        x.wall(1, true);
        CHECK.due("as a row: the only one sees NOBODY", x.before(), 0);
        x.act(0, 0, 3);
        CHECK.due("0 and 3", x.before(), 2);
    }

    private static long power(int base, int n) {
        return BigInteger.valueOf(base).modPow(BigInteger.valueOf(n), BigInteger.valueOf(1000000007)).longValue();
    }

    private static void goes() {
        BeaconWall x = new BeaconWall();
        CHECK.due("p 100", x.goes(100, 0, 0, 1), -1);
        CHECK.due("p -2", x.goes(-2, 0, 0, 1), -1);
        CHECK.due("s -1", x.goes(0, -1, 0, 1), -1);
        CHECK.due("s 100", x.goes(0, 100, 0, 1), -1);
        CHECK.due("a 10", x.goes(0, 0, 10, 1), -1);
        CHECK.due("a -10", x.goes(0, 0, -10, 1), -1);
        CHECK.due("b 0", x.goes(0, 0, 0, 0), -1);
        CHECK.due("b 10", x.goes(0, 0, 0, 10), -1);
        for (int i = 1; i <= 8; i++) {
            CHECK.due("goes " + i, x.goes(99, 99, i % 2 == 0 ? 9 : -9, 9), i);
        }
        CHECK.due("a ninth", x.goes(0, 0, 0, 1), -1);
        CHECK.due("none is then", x.goes(-1, 0, 0, 1), 0);
        CHECK.due("none is there", x.echo(0, 99, 0, 0), FAR);
        CHECK.due("the first again", x.goes(0, 0, 0, 1), 1);
        CHECK.due("none, whatever else", x.goes(-1, 500, 500, 0), 0);
    }

    private static void meets(BeaconWall x, int i, int j, int... due) {
        for (int what = 0; what < 4; what++) {
            CHECK.due("meets(" + i + ", " + j + ", " + what + ")", x.meets(i, j, what), due[what]);
            CHECK.due("meets(" + j + ", " + i + ", " + what + ")", x.meets(j, i, what), due[what]);
        }
    }

    private static void meets() {
        BeaconWall x = new BeaconWall();
        x.goes(0, 0, 1, 1);
        x.goes(10, 0, -1, 1);
        x.goes(10, 2, 1, 3);
        x.goes(10, 0, 2, 1);
        x.goes(5, 5, 2, 2);
        x.goes(7, 5, 3, 3);
        x.goes(0, 0, 0, 5);
        meets(x, 0, 1, 5, 1, 5, 1);
        meets(x, 0, 2, 14, 1, 14, 1);
        meets(x, 1, 2, 1, 2, 19, 2);
        meets(x, 0, 3, -10, 1, -10, 1);
        meets(x, 2, 6, -28, 1, 0, 1);
        meets(x, 0, 6, 0, 1, 0, 1);
        meets(x, 0, 4, FAR, FAR, FAR, FAR);
        meets(x, 0, 5, FAR, FAR, FAR, FAR);
        meets(x, 0, 0, FAR, FAR, FAR, FAR);
        meets(x, 0, 7, FAR, FAR, FAR, FAR);
        meets(x, 0, -1, FAR, FAR, FAR, FAR);
        CHECK.due("meets(0, 1, 4)", x.meets(0, 1, 4), FAR);
        CHECK.due("meets(0, 1, -1)", x.meets(0, 1, -1), FAR);
    }

    private static void echo(BeaconWall x, int i, int n, int t, int above, int below) {
        CHECK.due("echo(" + i + ", " + n + ", " + t + ", 0)", x.echo(i, n, t, 0), above);
        CHECK.due("echo(" + i + ", " + n + ", " + t + ", 1)", x.echo(i, n, t, 1), below);
    }

    private static void echo() {
        BeaconWall x = new BeaconWall();
        x.goes(0, 50, 1, 1);
        x.goes(1, 0, -2, 3);
        x.goes(2, 0, 9, 6);
        echo(x, 0, 5, 0, 0, 1);
        echo(x, 0, 5, 4, 4, 1);
        echo(x, 0, 5, 5, 3, 1);
        echo(x, 0, 5, 8, 0, 1);
        echo(x, 0, 5, 9, 1, 1);
        echo(x, 0, 2, 999, 1, 1);
        echo(x, 1, 3, 1, 1, 3);
        echo(x, 1, 3, 2, 1, 3);
        echo(x, 1, 3, 3, 1, 1);
        echo(x, 2, 3, 1, 1, 2);
        echo(x, 2, 99, 1, 7, 2);
        echo(x, 2, 2, 1, FAR, FAR);
        echo(x, 0, 1, 0, FAR, FAR);
        echo(x, 0, 100, 0, FAR, FAR);
        echo(x, 0, 5, -1, FAR, FAR);
        echo(x, 0, 5, 1000, FAR, FAR);
        echo(x, 3, 5, 0, FAR, FAR);
        echo(x, -1, 5, 0, FAR, FAR);
        CHECK.due("echo(0, 5, 0, 2)", x.echo(0, 5, 0, 2), FAR);
    }

    private static void lights(int n, int lit, int fewest, int set) {
        BeaconWall x = new BeaconWall();
        CHECK.due("lights(" + n + ", " + lit + ", 0)", x.lights(n, lit, 0), fewest);
        CHECK.due("lights(" + n + ", " + lit + ", 1)", x.lights(n, lit, 1), set);
    }

    private static void lights() {
        lights(1, 0, 1, 1);
        lights(1, 1, 0, 0);
        lights(2, 0, 1, 1);
        lights(2, 1, -1, -1);
        lights(2, 3, 0, 0);
        lights(3, 0, 1, 2);
        lights(4, 0, 2, 9);
        lights(5, 0, 2, 9);
        lights(6, 0, 2, 18);
        lights(5, 7, 1, 16);
        lights(8, 31, 1, 64);
        lights(12, 4095, 0, 0);
        lights(12, 4096, -1, -1);
        lights(3, -1, -1, -1);
        lights(0, 0, -1, -1);
        lights(13, 0, -1, -1);
        CHECK.due("lights(3, 0, 2)", new BeaconWall().lights(3, 0, 2), -1);
    }
}
