import java.util.Random;

/**
 * Promises 14 to 20: nights in which most sightings meet or most curtains can follow one another, so that there are many
 * ways to part and to join them, and the first of as few must be chosen; answered by the class and by the Model.
 */
public final class DenseNightsTest {
    private static final int NIGHTS = 120, NIGHT = 5, STATIONS = 8;
    private static final Due due = new Due("DenseNightsTest");

    private final Random random;
    private final Asker real = new Asker();
    private final Asker model = new Asker(new Model());
    private final String name;
    private int sightings;

    private DenseNightsTest(String name, long seed) {
        this.name = name + " " + seed + ": ";
        random = new Random(seed);
    }

    public static void main(String[] args) {
        int parted = 0;
        int joined = 0;
        for (int seed = 0; seed < NIGHTS; seed++) {
            DenseNightsTest ring = new DenseNightsTest("ring", seed);
            ring.ring();
            parted += ring.tell() ? 1 : 0;
            DenseNightsTest crossroads = new DenseNightsTest("crossroads", seed);
            crossroads.crossroads();
            joined += crossroads.tell() ? 1 : 0;
        }
        due.holds("too few rings have curtains of three: " + parted, parted > NIGHTS / 2);
        due.holds("too few crossroads have a way of two: " + joined, joined > NIGHTS / 2);
        due.end();
    }

    private int ask(String call, int... args) {
        int got = real.ask(call, args);
        due.is(name + Asker.call(call, args), got, model.ask(call, args));
        return got;
    }

    /** Stations all round one light, by clocks that may be wrong by some minutes: whose minutes touch, mostly meet. */
    private void ring() {
        double turn = random.nextDouble();
        int far = 300 + random.nextInt(400);
        int wide = 1 + random.nextInt(12);
        for (int i = 0; i < STATIONS; i++) {
            double angle = 2 * Math.PI * (i + turn) / STATIONS;
            ask("station", (int) (1000 - far * Math.sin(angle)), (int) (1000 - far * Math.cos(angle)));
            ask("clock", i, -random.nextInt(wide), random.nextInt(wide));
        }
        ask("thick", 40 + random.nextInt(161));
        int height = (int) Math.toDegrees(Math.atan2(110, far));
        for (int i = 0; i < 10; i++) {
            int station = random.nextInt(STATIONS);
            int bearing = (int) Math.round(Math.toDegrees(2 * Math.PI * (station + turn) / STATIONS)) % 360;
            ask("arc", station, NIGHT, 600 + random.nextInt(20), bearing, height + random.nextInt(3), 0);
            sightings++;
        }
    }

    /** Four stations look north, four east: each two cross, two at one minute are a curtain, five in all. */
    private void crossroads() {
        for (int i = 1; i <= 4; i++) {
            ask("station", 90 * i + random.nextInt(20), 0);
            ask("station", 0, 90 * i + random.nextInt(20));
        }
        ask("thick", 200);
        ask("speed", 1 + random.nextInt(60));
        int apart = 2 + random.nextInt(12);
        for (int i = 0; i < 5; i++) {
            int minute = 600 + apart * random.nextInt(5);
            ask("arc", 2 * random.nextInt(4), NIGHT, minute, 0, 10, 0);
            ask("ray", 2 * random.nextInt(4) + 1, NIGHT, minute, 90, 10, 0, 0);
            sightings += 2;
        }
    }

    /** Asks all that is told of the night; whether a curtain has three sightings or is followed by another. */
    private boolean tell() {
        int curtains = ask("curtains", NIGHT);
        ask("ways", NIGHT);
        boolean isRich = false;
        for (int s = 0; s < sightings; s++) {
            ask("curtainOf", s);
        }
        for (int k = 0; k <= curtains; k++) {
            isRich |= ask("curtain", NIGHT, k, 0) > 2;
            for (int what = 1; what < 6; what++) {
                ask("curtain", NIGHT, k, what);
            }
            isRich |= ask("next", NIGHT, k) >= 0;
            for (int station = 0; station < STATIONS; station++) {
                ask("overhead", NIGHT, k, station);
            }
        }
        return isRich;
    }
}
