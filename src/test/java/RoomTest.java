import com.sun.management.ThreadMXBean;
import java.lang.management.ManagementFactory;

/** All runs live in one room (rule 12 of LANGUAGE.md): what asks makes no object, what keeps makes one that is small. */
public final class RoomTest {
    private static final Due due = new Due("RoomTest");
    private static final ThreadMXBean THREADS = (ThreadMXBean) ManagementFactory.getThreadMXBean();
    // An object of the class has some 30 objects and 600 fields and elements, 4 bytes each and the heads.
    private static final long NEW_BYTES = 4000, KEPT_BYTES = 64, SHEET_BYTES = 36 * 8 + 64;

    private interface Calls {
        int ask(NorthCurtains x);
    }

    public static void main(String[] args) {
        makes("a new object", NEW_BYTES, x -> new NorthCurtains().count(0));
        makes("a station", KEPT_BYTES, x -> x.station(7, 7));
        makes("a glow", KEPT_BYTES, x -> x.glow(0, 9, 0, 0, 2));
        makes("an arc", KEPT_BYTES, x -> x.arc(0, 9, 0, 0, 2, 0));
        makes("a ray", KEPT_BYTES, x -> x.ray(0, 9, 0, 0, 2, 0, 0));
        makes("a watch", KEPT_BYTES, x -> x.watch(1, 1, 5, 0, 0));
        makes("a sheet", SHEET_BYTES, x -> x.sheet(1, 2, 36));
        makes("arcs of a sheet", 2 * KEPT_BYTES, x -> x.arcs(0, 1, 0, 2));
        makes("a shared pair", 0, x -> x.share(0, 3));
        makes("a clock", 0, x -> x.clock(0, 1, 2));
        makes("an item", 0, x -> x.item(0, 1, 4, 30));
        makes("a drop", 0, x -> x.drop(0));
        makes("what tells of sightings", 0, RoomTest::tellSightings);
        makes("what tells of a night", 0, RoomTest::tellNight);
        makes("what tells of nights", 0, RoomTest::tellNights);
        makes("what is refused", 0, RoomTest::refused);
        due.end();
    }

    /** The first time classes are loaded and calls are linked, so only the second is measured. */
    private static void makes(String what, long most, Calls calls) {
        calls.ask(inUse());
        THREADS.getCurrentThreadAllocatedBytes();
        NorthCurtains x = inUse();
        long before = THREADS.getCurrentThreadAllocatedBytes();
        int answer = calls.ask(x);
        long made = THREADS.getCurrentThreadAllocatedBytes() - before;
        due.holds(what + " is taken: " + answer, answer >= 0);
        due.holds(what + " makes " + made + " bytes, due are " + most + " at most", made <= most);
    }

    /** Ten arcs of night 3, five curtains; two arcs in sheet 0. */
    private static NorthCurtains inUse() {
        NorthCurtains x = new NorthCurtains();
        x.thick(200);
        for (int i = 1; i <= 3; i++) {
            x.station(100 * i, 0);
            x.station(0, 100 * i);
        }
        for (int i = 0; i < 5; i++) {
            x.arc(2 * (i % 3), 3, 100 + 20 * i, 0, 10, 0);
            x.ray(1 + 2 * (i % 2), 3, 100 + 20 * i, 90, 10, 0, 0);
        }
        x.glow(0, 4, 0, 0, 2);
        x.glow(0, 5, 0, 0, 2);
        x.watch(0, 3, 10, 2, 3);
        x.share(0, 1);
        x.share(2, 1);
        x.sheet(0, 1, 12);
        x.item(0, 1, 4, 30);
        x.item(0, 1, 10, 30);
        return x;
    }

    private static int tellSightings(NorthCurtains x) {
        boolean isTold = x.colour(1) == 0 && x.lean(1) == 0 && x.table(0, 30) == 500 && x.meets(0, 1) == 2;
        for (int what = 0; what < 7; what++) {
            isTold &= x.told(1, what) >= 0 && x.cross(0, 1, what) >= 0;
        }
        return isTold ? x.thick(199) : -1;
    }

    private static int tellNight(NorthCurtains x) {
        int taken = 0;
        for (int k = 0; k < 5; k++) {
            for (int what = 0; what < 6; what++) {
                taken += x.curtain(3, k, what) >= 0 ? 1 : 0;
            }
            taken += x.next(3, k) >= 0 && x.overhead(3, k, 2) >= 0 ? 1 : 0;
            taken += x.curtainOf(2 * k) == k ? 1 : 0;
        }
        return x.curtains(3) == 5 && x.ways(3) == 1 && taken == 39 ? x.speed(30) : -1;
    }

    private static int tellNights(NorthCurtains x) {
        int taken = x.seen(0, 3) + x.rate(-1, 0, 399, 3) + x.round(30) + x.moved(3) + x.mended(0, 1) + x.count(4);
        return x.best() == 40 ? taken : -1;
    }

    private static int refused(NorthCurtains x) {
        boolean isRefused = x.station(-1, 0) < 0 && x.clock(0, 1, 0) < 0 && x.glow(0, 0, 0, 0, 1) < 0
            && x.arc(0, 0, 0, 0, 2, 5) < 0 && x.ray(0, 0, 0, 0, 2, 0, 46) < 0 && x.watch(0, 3, 1, 0, 0) < 0
            && x.share(1, 0) < 0 && x.sheet(0, 0, -1) < 0 && x.sheet(0, 0, 37) < 0 && x.drop(3) < 0
            && x.item(0, 0, 0, 0) < 0 && x.arcs(0, 1, 1, 2) < 0;
        return isRefused ? 0 : -1;
    }
}
