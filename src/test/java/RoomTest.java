import com.sun.management.ThreadMXBean;
import java.lang.management.ManagementFactory;

/** All calls of one run live in one room: an object is small, and its calls make nothing new. */
public final class RoomTest {
    private static final Check CHECK = new Check("RoomTest");
    private static final long OBJECT_BYTES = 400_000;
    private static final long CALL_BYTES = 100_000;

    public static void main(String[] args) {
        ThreadMXBean threads = (ThreadMXBean) ManagementFactory.getThreadMXBean();
        calls(new BeaconWall());
        long ahead = threads.getCurrentThreadAllocatedBytes();
        BeaconWall x = new BeaconWall();
        long made = threads.getCurrentThreadAllocatedBytes();
        calls(x);
        long behind = threads.getCurrentThreadAllocatedBytes();
        CHECK.due("an object of " + (made - ahead) + " bytes is small", made - ahead < OBJECT_BYTES, true);
        CHECK.due("calls that take " + (behind - made) + " bytes make nothing", behind - made < CALL_BYTES, true);
        CHECK.finish();
    }

    private static void calls(BeaconWall x) {
        for (int i = 0; i < 10; i++) {
            x.feed(0x302C3120, 0x616E7920, 0x616E793E, 0x323B3220, 0x616E7920);
            x.feed(0x616E793E, 0x373B2020, 0x20202020, 0x20202020, 0x20202020);
            x.text(i % 4);
            x.keeps();
            x.wall(32, true);
            x.act(0, i, 1);
            x.breaths(60);
            x.undo();
            x.image(true);
            x.image(false);
            x.works(24, 0);
            x.used(24, 1);
            x.mends(0, 24);
            x.worn(1, 24);
            x.more(8, 0);
            x.two(24, 1);
            x.deafened(32, 1, 0);
            x.alike(24, 0);
            x.before();
            x.round(0);
            x.heard(0, 31, 0);
            x.enough(24);
            x.mixed(24, 0);
            x.rules(0);
            x.begun(32, 0);
            x.lights(12, 5, 1);
            x.trees(0);
        }
    }
}
