/** Promises 14 to 20: curtains of a night, their ways, when one is overhead. */
public final class CurtainsTest {
    private static final Due due = new Due("CurtainsTest");
    private static final int MIN = Integer.MIN_VALUE, MAX = Integer.MAX_VALUE;

    public static void main(String[] args) {
        fewestCurtains();
        firstOfAsFew();
        curtain();
        timeBelowZero();
        placeOfThree();
        placeOfThreeWest();
        curtainOf();
        speed();
        ways();
        fewestWays();
        overhead();
        fullNight();
        wrongNumbers();
        due.end();
    }

    /** Four stations that all look at one place, by clocks that may be ten minutes ahead. */
    private static NorthCurtains fourStations() {
        NorthCurtains x = new NorthCurtains();
        x.station(0, 0);
        x.station(500, 0);
        x.station(0, 500);
        x.station(1000, 0);
        for (int i = 0; i < 4; i++) {
            x.clock(i, 0, 10);
        }
        return x;
    }

    private static int look(NorthCurtains x, int station, int minute) {
        int[] bearing = {45, 0, 90, 315};
        int[] height = {8, 11, 11, 8};
        return x.arc(station, 3, minute, bearing[station], height[station], 0);
    }

    /** 0 meets 1 and 2, 1 meets 0 and 3: who takes 1 to 0 needs three sets. */
    private static void fewestCurtains() {
        NorthCurtains x = fourStations();
        int[] minutes = {120, 130, 110, 140};
        for (int i = 0; i < 4; i++) {
            look(x, i, minutes[i]);
        }
        due.is("meets 0 1", x.meets(0, 1), 2);
        due.is("meets 0 2", x.meets(0, 2), 2);
        due.is("meets 1 3", x.meets(1, 3), 2);
        due.is("meets 2 3", x.meets(2, 3), 1);
        due.is("curtains", x.curtains(3), 2);
        int[] want = {0, 1, 0, 1};
        for (int i = 0; i < 4; i++) {
            due.is("curtain of " + i, x.curtainOf(i), want[i]);
        }
        due.is("time 0", x.curtain(3, 0, 1), 110);
        due.is("time 1", x.curtain(3, 1, 1), 130);
        due.is("another night", x.curtains(4), 0);
        x.arc(0, 4, 120, 45, 8, 0);
        x.arc(1, 4, 700, 0, 11, 0);
        x.arc(2, 4, 120, 90, 11, 0);
        due.is("of other meetings", x.curtains(4), 2);
        due.is("of other meetings", x.curtainOf(6), 0);
        x.arc(0, 5, 120, 45, 8, 0);
        x.arc(1, 5, 700, 0, 11, 0);
        x.arc(2, 5, 300, 90, 11, 0);
        due.is("of no meetings", x.curtains(5), 3);
        x.clock(2, 0, 0);
        due.is("by another clock", x.curtains(3), 2);
        x.clock(2, 10, 10);
        due.is("by a worse clock", x.curtains(3), 3);
        x.clock(2, 0, 10);
        x.thick(0);
        due.is("no thickness: none is of another's height", x.curtains(3), 4);
        due.is("the last alone", x.curtainOf(3), 3);
    }

    private static void firstOfAsFew() {
        NorthCurtains x = fourStations();
        int[] minutes = {120, 110, 130, 200};
        for (int i = 0; i < 4; i++) {
            look(x, i, minutes[i]);
        }
        due.is("curtains", x.curtains(3), 3);
        int[] want = {0, 0, 1, 2};
        for (int i = 0; i < 4; i++) {
            due.is("curtain of " + i, x.curtainOf(i), want[i]);
        }
        due.is("of glows none", x.glow(0, 3, 120, 45, 8), 4);
        due.is("still", x.curtains(3), 3);
        look(x, 3, 125);
        due.is("the fifth goes to the first it can", x.curtainOf(5), 1);
    }

    private static void curtain() {
        NorthCurtains x = fourStations();
        x.glow(0, 3, 120, 45, 8);
        look(x, 0, 120);
        look(x, 3, 300);
        look(x, 1, 125);
        int[] first = {2, 117, 499, 499, 98, 1};
        int[] second = {1, 295, -100004, -100004, -100004, 2};
        for (int what = 0; what < 6; what++) {
            due.is("curtain 0, " + what, x.curtain(3, 0, what), first[what]);
            due.is("curtain 1, " + what, x.curtain(3, 1, what), second[what]);
            due.is("curtain 2, " + what, x.curtain(3, 2, what), -100001);
            due.is("curtain -1, " + what, x.curtain(3, -1, what), -100001);
        }
    }

    private static void timeBelowZero() {
        NorthCurtains x = fourStations();
        x.clock(0, 2, 9);
        look(x, 0, 0);
        due.is("from -9 to -2", x.curtain(3, 0, 1), -6);
        x.clock(0, 60, 60);
        due.is("-60", x.curtain(3, 0, 1), -60);
    }

    /** Pairs 0 1, 0 2, 1 2: x 499, 499, 500; y 499, 499, 500; height 98, 98, 97. */
    private static void placeOfThree() {
        NorthCurtains x = fourStations();
        for (int i = 0; i < 3; i++) {
            look(x, i, 120);
        }
        due.is("one", x.curtains(3), 1);
        int[][] pairs = {{0, 1}, {0, 2}, {1, 2}};
        for (int what = 0; what < 3; what++) {
            int sum = 0;
            for (int[] p : pairs) {
                sum += x.cross(p[0], p[1], what);
            }
            due.is("place " + what, x.curtain(3, 0, what + 2), sum / 3);
        }
        due.is("x", x.curtain(3, 0, 2), 499);
        due.is("y", x.curtain(3, 0, 3), 499);
        due.is("height", x.curtain(3, 0, 4), 97);
    }

    /** West of all stations the sums are below 0 and cut toward it. */
    private static void placeOfThreeWest() {
        NorthCurtains x = new NorthCurtains();
        x.thick(200);
        x.station(0, 0);
        x.station(0, 200);
        x.station(100, 50);
        x.arc(0, 0, 0, 315, 30, 0);
        x.arc(1, 0, 0, 230, 30, 0);
        x.arc(2, 0, 0, 285, 20, 0);
        int sum = x.cross(0, 1, 0) + x.cross(0, 2, 0) + x.cross(1, 2, 0);
        due.is("one", x.curtains(0), 1);
        due.holds("the sum is below 0 and no third: " + sum, sum < 0 && sum % 3 != 0);
        due.is("x", x.curtain(0, 0, 2), sum / 3);
        due.holds("x is cut toward 0", x.curtain(0, 0, 2) * 3 > sum);
    }

    private static void curtainOf() {
        NorthCurtains x = fourStations();
        due.is("nothing", x.curtainOf(0), -1);
        x.glow(0, 3, 1, 1, 5);
        look(x, 1, 100);
        look(x, 2, 200);
        due.is("a glow", x.curtainOf(0), -12);
        due.is("first", x.curtainOf(1), 0);
        due.is("second", x.curtainOf(2), 1);
        due.is("names nothing", x.curtainOf(3), -1);
        due.is("names nothing", x.curtainOf(-1), -1);
    }

    private static void speed() {
        NorthCurtains x = new NorthCurtains();
        due.is("at first", x.speed(1), 20);
        due.is("least", x.speed(60), 1);
        due.is("below", x.speed(0), -1);
        due.is("above", x.speed(61), -1);
        due.is("greatest kept", x.speed(5), 60);
    }

    /** Stations 0, 1, 2 look north along x 100, 200, 300; 3, 4 east along y 100, 200; so places are exact. */
    private static NorthCurtains crossroads() {
        NorthCurtains x = new NorthCurtains();
        x.thick(200);
        x.station(100, 0);
        x.station(200, 0);
        x.station(300, 0);
        x.station(0, 100);
        x.station(0, 200);
        return x;
    }

    private static void put(NorthCurtains x, int minute, int north, int east) {
        x.arc(north, 0, minute, 0, 20, 0);
        x.arc(east, 0, minute, 90, 20, 0);
    }

    private static void ways() {
        NorthCurtains x = crossroads();
        put(x, 100, 0, 3);
        put(x, 110, 0, 4);
        put(x, 111, 1, 3);
        put(x, 120, 1, 4);
        x.arc(2, 0, 130, 0, 20, 0);
        due.is("curtains", x.curtains(0), 5);
        due.is("x", x.curtain(0, 2, 2), 200);
        due.is("y", x.curtain(0, 2, 3), 100);
        due.is("ways", x.ways(0), 2);
        int[] want = {1, 3, -4, -4, -4};
        for (int k = 0; k < 5; k++) {
            due.is("next " + k, x.next(0, k), want[k]);
        }
        due.is("next 5", x.next(0, 5), -1);
        due.is("next -1", x.next(0, -1), -1);
        x.speed(9);
        due.is("slow", x.ways(0), 3);
        due.is("slow next 0", x.next(0, 0), 3);
        due.is("slow next 1", x.next(0, 1), -4);
        due.is("slow next 2", x.next(0, 2), -4);
        x.speed(10);
        due.is("just fast enough", x.ways(0), 2);
        due.is("just fast enough", x.next(0, 0), 1);
        x.speed(1);
        due.is("too slow", x.ways(0), 4);
        due.is("of no night", x.ways(400), -1);
    }

    /** 0 could be followed by 2 first, but only 2 can follow 1, at just what speed allows. */
    private static void fewestWays() {
        NorthCurtains x = crossroads();
        put(x, 100, 1, 4);
        put(x, 101, 0, 4);
        put(x, 106, 1, 4);
        put(x, 107, 2, 4);
        due.is("ways", x.ways(0), 2);
        due.is("next 0", x.next(0, 0), 3);
        due.is("next 1", x.next(0, 1), 2);
        due.is("next 2", x.next(0, 2), -4);
        x.speed(19);
        due.is("slower", x.ways(0), 3);
        due.is("next 0", x.next(0, 0), 2);
        due.is("next 1", x.next(0, 1), -4);
        NorthCurtains y = crossroads();
        put(y, 100, 0, 3);
        y.clock(2, -60, -60);
        y.clock(4, -60, -60);
        put(y, 1439, 2, 4);
        y.speed(60);
        due.is("beyond an int", y.next(0, 0), 1);
        NorthCurtains z = crossroads();
        put(z, 200, 1, 4);
        put(z, 100, 0, 3);
        due.is("the later comes first", z.next(0, 1), 0);
        due.is("the later is last", z.next(0, 0), -4);
        due.is("one way", z.ways(0), 1);
        due.is("overhead the first", z.overhead(0, 1, 0), 0);
        z.station(230, 230);
        due.is("a minute each, and ten for ten", z.overhead(0, 1, 5), 30);
        takenFollower();
    }

    /** 0 and 1 could both be followed by 2 alone. */
    private static void takenFollower() {
        NorthCurtains x = crossroads();
        put(x, 100, 0, 3);
        put(x, 100, 1, 4);
        put(x, 120, 0, 4);
        due.is("curtains", x.curtains(0), 3);
        due.is("ways", x.ways(0), 2);
        due.is("next 0", x.next(0, 0), 2);
        due.is("next 1", x.next(0, 1), -4);
        due.is("next 2", x.next(0, 2), -4);
        put(x, 140, 1, 4);
        due.is("ways", x.ways(0), 2);
        due.is("next 0", x.next(0, 0), 2);
        due.is("next 1", x.next(0, 1), 3);
        due.is("next 2", x.next(0, 2), -4);
    }

    private static void overhead() {
        NorthCurtains x = crossroads();
        x.station(100, 500);
        x.station(100, 2000);
        put(x, 100, 0, 3);
        put(x, 110, 0, 4);
        due.is("behind", x.overhead(0, 0, 0), 0);
        due.is("in its way", x.overhead(0, 0, 5), 30);
        due.is("too far", x.overhead(0, 0, 6), 120);
        due.is("nothing follows", x.overhead(0, 1, 0), -4);
        due.is("no such curtain", x.overhead(0, 2, 0), -1);
        due.is("no such curtain", x.overhead(0, -1, 0), -1);
        due.is("no such station", x.overhead(0, 0, 7), -1);
        due.is("no such station", x.overhead(0, 1, -1), -1);
        due.is("no such night", x.overhead(400, 0, 0), -1);
        NorthCurtains y = crossroads();
        y.station(100, 201);
        put(y, 100, 0, 3);
        put(y, 300, 0, 4);
        due.is("of like ones the least", y.overhead(0, 0, 5), 2);
        NorthCurtains z = crossroads();
        z.station(100, 99);
        put(z, 100, 0, 4);
        put(z, 300, 0, 3);
        due.is("cut toward 0", z.overhead(0, 0, 5), 2);
        overheadSoon();
        overheadFar();
    }

    /** One minute between, and one minute behind. */
    private static void overheadSoon() {
        NorthCurtains x = new NorthCurtains();
        x.thick(200);
        x.station(100, 0);
        x.station(0, 100);
        x.station(0, 120);
        x.station(100, 140);
        x.station(100, 131);
        x.station(0, 2000);
        x.arc(0, 0, 100, 0, 20, 0);
        x.arc(1, 0, 100, 90, 20, 0);
        x.arc(0, 0, 101, 0, 20, 0);
        x.arc(2, 0, 101, 90, 20, 0);
        due.is("next", x.next(0, 0), 1);
        due.is("one minute", x.overhead(0, 0, 3), 1);
        due.is("nearer by one", x.overhead(0, 0, 4), 1);
        due.is("94 minutes", x.overhead(0, 0, 5), 94);
    }

    /** Away from a station that is to the north-east. */
    private static void overheadFar() {
        NorthCurtains x = new NorthCurtains();
        x.thick(200);
        x.station(1400, 0);
        x.station(0, 10);
        x.station(0, 1400);
        x.station(10, 0);
        x.station(2000, 2000);
        x.speed(60);
        x.arc(0, 0, 0, 0, 45, 0);
        x.arc(1, 0, 0, 90, 2, 0);
        x.arc(2, 0, 40, 90, 45, 0);
        x.arc(3, 0, 40, 0, 2, 0);
        due.is("curtains", x.curtains(0), 2);
        due.is("next", x.next(0, 0), 1);
        due.is("place", x.curtain(0, 1, 2), 10);
        due.is("place", x.curtain(0, 1, 3), 1400);
        due.is("overhead the first", x.overhead(0, 0, 4), 0);
    }

    private static void fullNight() {
        NorthCurtains x = crossroads();
        for (int i = 0; i < 10; i++) {
            x.arc(i % 5, 0, 100 * i, i % 5 < 3 ? 0 : 90, 20, 0);
        }
        x.glow(0, 0, 5, 5, 5);
        x.arc(0, 1, 5, 5, 5, 0);
        due.is("ten", x.curtains(0), 10);
        due.is("last of ten", x.curtainOf(9), 9);
        due.is("no ways of ten", x.ways(0), 0);
        due.is("none of ten", x.next(0, 9), -4);
        due.is("not ten", x.next(0, 10), -1);
        x.ray(0, 0, 5, 5, 5, 0, 0);
        due.is("eleven", x.curtains(0), -3);
        due.is("eleven", x.curtain(0, 0, 0), -100003);
        due.is("eleven", x.curtain(0, 0, 2), -100003);
        due.is("eleven", x.curtainOf(3), -3);
        due.is("eleven", x.ways(0), -3);
        due.is("eleven", x.next(0, 0), -3);
        due.is("eleven", x.overhead(0, 0, 0), -3);
        due.is("a glow of eleven", x.curtainOf(10), -12);
        due.is("bad ahead of full", x.curtain(0, 0, 6), -100001);
        due.is("bad ahead of full", x.curtain(0, -1, 0), -100001);
        due.is("bad ahead of full", x.next(0, -1), -1);
        due.is("bad ahead of full", x.overhead(0, 0, 5), -1);
        due.is("another night", x.curtains(1), 1);
        for (int i = 13; i < 40; i++) {
            due.is("to the last", x.glow(0, 2, 5, 5, 5), i);
        }
        due.is("another night of forty", x.curtains(1), 1);
        due.is("nothing more", x.curtainOf(40), -1);
    }

    private static void wrongNumbers() {
        NorthCurtains x = crossroads();
        put(x, 100, 0, 3);
        int[] bad = {-1, 400, MIN, MAX};
        for (int b : bad) {
            due.is("night " + b, x.curtains(b), -1);
            due.is("night " + b, x.curtain(b, 0, 0), -100001);
            due.is("night " + b, x.ways(b), -1);
            due.is("night " + b, x.next(b, 0), -1);
            due.is("night " + b, x.overhead(b, 0, 0), -1);
            due.is("k " + b, x.curtain(0, b, 0), -100001);
            due.is("k " + b, x.next(0, b), -1);
            due.is("k " + b, x.overhead(0, b, 0), -1);
            due.is("what " + b, x.curtain(0, 0, b), -100001);
        }
        due.is("what 6", x.curtain(0, 0, 6), -100001);
    }
}
