/** Promises 1 to 13: stations, clocks, sightings, tables, what meets and crosses. */
public final class StationsTest {
    private static final Due due = new Due("StationsTest");
    private static final int MIN = Integer.MIN_VALUE, MAX = Integer.MAX_VALUE;

    public static void main(String[] args) {
        newObject();
        station();
        clock();
        glow();
        arc();
        ray();
        told();
        colourAndLean();
        table();
        thick();
        meets();
        meetsAtEdges();
        cross();
        full();
        due.end();
    }

    private static void newObject() {
        NorthCurtains x = new NorthCurtains();
        for (int what = 0; what <= 4; what++) {
            due.is("new count " + what, x.count(what), 0);
        }
        due.is("new thick", x.thick(7), 20);
        due.is("new speed", x.speed(7), 20);
        due.is("new curtains", x.curtains(0), 0);
        due.is("new ways", x.ways(0), 0);
        due.is("new best", x.best(), -4);
        due.is("new round", x.round(30), 0);
        due.is("new rate", x.rate(-1, 0, 399, 3), 0);
        due.is("new told", x.told(0, 0), -1001);
        due.is("new clock", x.clock(0, 0, 0), -1);
        for (int sheet = 0; sheet < 4; sheet++) {
            due.is("new sheet " + sheet, x.drop(sheet), -11);
        }
    }

    private static void station() {
        NorthCurtains x = new NorthCurtains();
        int[][] bad = {{-1, 0}, {2001, 0}, {0, -1}, {0, 2001}, {MIN, 0}, {0, MAX}};
        for (int[] b : bad) {
            due.is("bad station " + b[0] + " " + b[1], x.station(b[0], b[1]), -1);
        }
        due.is("none came", x.count(0), 0);
        for (int i = 0; i < 8; i++) {
            due.is("station " + i, x.station(i % 2 == 0 ? 0 : 2000, i % 3 == 0 ? 2000 : 0), i);
        }
        due.is("ninth", x.station(5, 5), -3);
        due.is("bad ninth", x.station(-1, 5), -1);
        due.is("eight", x.count(0), 8);
        due.is("clock of the eighth", x.clock(7, 1, 1), 1);
        due.is("clock of a ninth", x.clock(8, 1, 1), -1);
        due.is("clock of a tenth", x.clock(9, 1, 1), -1);
    }

    private static void clock() {
        NorthCurtains x = new NorthCurtains();
        x.station(1, 1);
        x.station(2, 2);
        x.glow(1, 0, 100, 0, 2);
        due.is("at first", x.told(0, 6), 100);
        due.is("at first", x.told(0, 7), 100);
        due.is("widest", x.clock(1, -60, 60), 1);
        due.is("first minute", x.told(0, 6), 40);
        due.is("last minute", x.told(0, 7), 160);
        due.is("one", x.clock(1, 60, 60), 1);
        due.is("one, other end", x.clock(1, -60, -60), 1);
        due.is("first minute", x.told(0, 6), 160);
        int[][] bad = {{1, 5, 4}, {1, -61, 0}, {1, 0, 61}, {2, 0, 0}, {-1, 0, 0}, {1, 61, 61}, {1, -61, -61},
            {MAX, 0, 0}, {1, MIN, MAX}};
        for (int[] b : bad) {
            due.is("bad clock " + b[0] + " " + b[1] + " " + b[2], x.clock(b[0], b[1], b[2]), -1);
        }
        due.is("as it was", x.told(0, 6), 160);
        due.is("other station's", x.clock(0, 1, 2), 1);
        due.is("not this one's", x.told(0, 7), 160);
    }

    private static void glow() {
        NorthCurtains x = new NorthCurtains();
        due.is("no station", x.glow(0, 0, 0, 0, 2), -1);
        x.station(1, 1);
        int[][] bad = {{1, 0, 0, 0, 2}, {-1, 0, 0, 0, 2}, {0, -1, 0, 0, 2}, {0, 400, 0, 0, 2}, {0, 0, -1, 0, 2},
            {0, 0, 1440, 0, 2}, {0, 0, 0, -1, 2}, {0, 0, 0, 360, 2}, {0, 0, 0, 0, 1}, {0, 0, 0, 0, 89},
            {MIN, MIN, MIN, MIN, MIN}, {0, MAX, 0, 0, 2}};
        for (int[] b : bad) {
            due.is("bad glow", x.glow(b[0], b[1], b[2], b[3], b[4]), -1);
            due.is("bad arc", x.arc(b[0], b[1], b[2], b[3], b[4], 0), -1);
            due.is("bad ray", x.ray(b[0], b[1], b[2], b[3], b[4], 0, 0), -1);
        }
        due.is("none came", x.count(1), 0);
        due.is("least", x.glow(0, 0, 0, 0, 2), 0);
        due.is("greatest", x.glow(0, 399, 1439, 359, 88), 1);
        due.is("kind", x.told(1, 0), 0);
    }

    private static void arc() {
        NorthCurtains x = new NorthCurtains();
        x.station(1, 1);
        due.is("least", x.arc(0, 0, 0, 0, 2, 0), 0);
        due.is("greatest", x.arc(0, 399, 1439, 359, 88, 4), 1);
        due.is("colour 5", x.arc(0, 0, 0, 0, 2, 5), -1);
        due.is("colour -1", x.arc(0, 0, 0, 0, 2, -1), -1);
        due.is("kind", x.told(1, 0), 1);
        due.is("two", x.count(1), 2);
    }

    private static void ray() {
        NorthCurtains x = new NorthCurtains();
        x.station(1, 1);
        due.is("least", x.ray(0, 0, 0, 0, 2, 0, -45), 0);
        due.is("greatest", x.ray(0, 399, 1439, 359, 88, 4, 45), 1);
        due.is("colour 5", x.ray(0, 0, 0, 0, 2, 5, 0), -1);
        due.is("colour -1", x.ray(0, 0, 0, 0, 2, -1, 0), -1);
        due.is("lean 46", x.ray(0, 0, 0, 0, 2, 0, 46), -1);
        due.is("lean -46", x.ray(0, 0, 0, 0, 2, 0, -46), -1);
        due.is("kind", x.told(1, 0), 2);
        due.is("two", x.count(1), 2);
    }

    private static void told() {
        NorthCurtains x = new NorthCurtains();
        x.station(1, 1);
        x.station(2, 2);
        x.clock(1, -3, 5);
        x.ray(1, 7, 4, 200, 33, 3, -9);
        int[] want = {2, 1, 7, 4, 200, 33, -1, 7};
        for (int what = 0; what < 8; what++) {
            due.is("told " + what, x.told(0, what), want[what]);
        }
        due.is("told 8", x.told(0, 8), -1001);
        due.is("told -1", x.told(0, -1), -1001);
        due.is("told of 1", x.told(1, 0), -1001);
        due.is("told of -1", x.told(-1, 0), -1001);
        due.is("told of max", x.told(MAX, 0), -1001);
    }

    private static void colourAndLean() {
        NorthCurtains x = new NorthCurtains();
        x.station(1, 1);
        x.glow(0, 0, 0, 0, 2);
        x.arc(0, 0, 0, 0, 2, 4);
        x.ray(0, 0, 0, 0, 2, 3, -45);
        due.is("colour of a glow", x.colour(0), -12);
        due.is("colour of an arc", x.colour(1), 4);
        due.is("colour of a ray", x.colour(2), 3);
        due.is("colour of 3", x.colour(3), -1);
        due.is("colour of -1", x.colour(-1), -1);
        due.is("lean of a glow", x.lean(0), -112);
        due.is("lean of an arc", x.lean(1), -112);
        due.is("lean of a ray", x.lean(2), -45);
        due.is("lean of 3", x.lean(3), -101);
        due.is("lean of -1", x.lean(-1), -101);
    }

    private static void table() {
        // An object for each: nothing is promised behind 512 calls.
        NorthCurtains sines = new NorthCurtains();
        NorthCurtains cosines = new NorthCurtains();
        for (int d = 0; d < 360; d++) {
            due.is("sin " + d, sines.table(0, d), Math.round(1000 * Math.sin(Math.toRadians(d))));
            due.is("cos " + d, cosines.table(1, d), Math.round(1000 * Math.cos(Math.toRadians(d))));
        }
        NorthCurtains x = new NorthCurtains();
        for (int d = 1; d < 90; d++) {
            due.is("tan " + d, x.table(2, d), Math.round(1000 * Math.tan(Math.toRadians(d))));
        }
        int[][] bad = {{0, -1}, {0, 360}, {1, -1}, {1, 360}, {2, 0}, {2, 90}, {-1, 5}, {3, 5}, {0, MAX}, {1, MIN}};
        for (int[] b : bad) {
            due.is("bad table " + b[0] + " " + b[1], x.table(b[0], b[1]), -100001);
        }
    }

    private static void thick() {
        NorthCurtains x = new NorthCurtains();
        due.is("first", x.thick(0), 20);
        due.is("least", x.thick(200), 0);
        due.is("above", x.thick(201), -1);
        due.is("below", x.thick(-1), -1);
        due.is("greatest kept", x.thick(5), 200);
    }

    private static NorthCurtains crossed(int firstHeight, int secondHeight) {
        NorthCurtains x = new NorthCurtains();
        x.station(0, 0);
        x.station(400, 0);
        x.arc(0, 5, 100, 45, firstHeight, 0);
        x.ray(1, 5, 100, 315, secondHeight, 0, 0);
        return x;
    }

    private static void meets() {
        NorthCurtains x = crossed(20, 24);
        x.glow(1, 5, 100, 315, 20);
        x.arc(0, 5, 100, 315, 20, 0);
        x.arc(1, 6, 100, 315, 20, 0);
        due.is("23 apart", x.meets(0, 1), 0);
        x.thick(22);
        due.is("22 thick", x.meets(0, 1), 0);
        x.thick(23);
        due.is("23 thick", x.meets(0, 1), 2);
        due.is("turned", x.meets(1, 0), 2);
        due.is("of another night", x.meets(0, 4), 1);
        due.is("of one station", x.meets(0, 3), 0);
        due.is("one", x.meets(0, 0), -1);
        due.is("one glow", x.meets(2, 2), -1);
        due.is("a glow", x.meets(0, 2), -12);
        due.is("a glow first", x.meets(2, 1), -12);
        due.is("names nothing", x.meets(0, 5), -1);
        due.is("names nothing", x.meets(-1, 2), -1);
        meetsByClocks();
    }

    private static void meetsByClocks() {
        NorthCurtains x = crossed(20, 20);
        x.arc(1, 5, 107, 315, 20, 0);
        due.is("seven later", x.meets(0, 2), 1);
        x.clock(0, -3, 0);
        x.clock(1, -9, 4);
        due.is("ends touch", x.meets(0, 2), 2);
        x.clock(1, -9, 3);
        due.is("one short", x.meets(0, 2), 1);
        due.is("one short, turned", x.meets(2, 0), 1);
        x.clock(1, 4, 9);
        due.is("within", x.meets(2, 0), 2);
    }

    private static void meetsAtEdges() {
        NorthCurtains x = new NorthCurtains();
        x.thick(24);
        x.station(1, 0);
        x.station(0, 1500);
        x.station(0, 1501);
        x.station(1, 1500);
        x.arc(0, 0, 0, 0, 2, 0);
        for (int i = 1; i < 4; i++) {
            x.arc(i, 0, 0, 90, 88, 0);
        }
        due.is("r 1500, s 1", x.meets(0, 1), 2);
        due.is("r", x.cross(0, 1, 5), 1500);
        due.is("s", x.cross(0, 1, 6), 1);
        due.is("turned r", x.cross(1, 0, 5), 1);
        due.is("turned s", x.cross(1, 0, 6), 1500);
        due.is("r 1501", x.meets(0, 2), 0);
        due.is("s 1501", x.meets(2, 0), 0);
        due.is("s 0", x.meets(0, 3), 0);
        due.is("r 0", x.meets(3, 0), 0);
        wideAndNarrow();
        behind();
    }

    private static void wideAndNarrow() {
        NorthCurtains x = new NorthCurtains();
        x.thick(200);
        x.station(1990, 0);
        x.station(0, 2000);
        x.arc(1, 0, 0, 315, 2, 0);
        x.arc(0, 0, 0, 45, 82, 0);
        due.is("far beyond an int, behind", x.meets(0, 1), 0);
        NorthCurtains y = new NorthCurtains();
        y.thick(200);
        y.station(500, 0);
        y.station(550, 0);
        y.arc(0, 0, 0, 3, 5, 0);
        y.arc(1, 0, 0, 0, 5, 0);
        y.arc(1, 0, 0, 1, 5, 0);
        due.is("three degrees", y.meets(0, 1), 2);
        due.is("three degrees, turned", y.meets(1, 0), 2);
        due.is("r of three degrees", y.cross(0, 1, 5), 961);
        due.is("two degrees", y.meets(0, 2), 0);
        due.is("two degrees, turned", y.meets(2, 0), 0);
    }

    private static void behind() {
        NorthCurtains x = new NorthCurtains();
        x.station(500, 500);
        x.station(900, 500);
        x.arc(0, 0, 0, 225, 20, 0);
        x.arc(1, 0, 0, 135, 20, 0);
        x.arc(1, 0, 0, 225, 20, 0);
        due.is("both behind", x.meets(0, 1), 0);
        due.is("side by side", x.meets(0, 2), 0);
    }

    private static void cross() {
        NorthCurtains x = crossed(20, 21);
        x.glow(1, 5, 100, 315, 20);
        x.arc(0, 9, 100, 225, 20, 0);
        int[] want = {199, 199, 105, 102, 108, 282, 282};
        int[] turned = {201, 199, 105, 102, 108, 282, 282};
        for (int what = 0; what < 7; what++) {
            due.is("cross " + what, x.cross(0, 1, what), want[what]);
            due.is("turned cross " + what, x.cross(1, 0, what), turned[what]);
            due.is("cross of a glow " + what, x.cross(0, 2, what), -100012);
            due.is("no cross " + what, x.cross(3, 1, what), -100004);
        }
        due.is("what 7", x.cross(0, 1, 7), -100001);
        due.is("what -1", x.cross(0, 1, -1), -100001);
        due.is("what 7 of a glow", x.cross(0, 2, 7), -100001);
        due.is("names nothing", x.cross(0, 4, 0), -100001);
        due.is("names nothing", x.cross(-1, 2, 0), -100001);
        crossOfOne();
        crossWestward();
    }

    /** One sighting named twice is not two, of whichever kind: BAD ahead of CAST and of NONE. */
    private static void crossOfOne() {
        NorthCurtains x = crossed(20, 21);
        x.glow(1, 5, 100, 315, 20);
        x.ray(1, 5, 100, 315, 20, 1, 3);
        x.arc(0, 5, 100, 45, 20, 0);
        for (int one = 0; one < 5; one++) {
            for (int what = -1; what < 8; what++) {
                due.is("cross of one, " + one + ", " + what, x.cross(one, one, what), -100001);
            }
            due.is("meets of one, " + one, x.meets(one, one), -1);
            due.is("share of one, " + one, x.share(one, one), -1);
        }
        due.is("two of one station do not cross", x.cross(0, 4, 0), -100004);
        due.is("a glow and an arc of one station", x.cross(2, 3, 0), -100012);
        due.is("two sightings told alike are two", x.cross(1, 3, 0), -100004);
    }

    /** To the west and south the parts are cut toward 0 before they come to a station's place. */
    private static void crossWestward() {
        NorthCurtains x = new NorthCurtains();
        x.station(100, 100);
        x.station(0, 300);
        x.arc(0, 0, 0, 250, 30, 0);
        x.arc(1, 0, 0, 200, 22, 0);
        int[] want = {-98, 28, 118, 116, 122, 211, 289};
        int[] turned = {-98, 29, 118, 116, 122, 289, 211};
        for (int what = 0; what < 7; what++) {
            due.is("west " + what, x.cross(0, 1, what), want[what]);
            due.is("west, turned " + what, x.cross(1, 0, what), turned[what]);
        }
    }

    private static void full() {
        NorthCurtains x = new NorthCurtains();
        x.station(1, 1);
        for (int i = 0; i < 40; i++) {
            int got = i % 3 == 0 ? x.glow(0, 1, 1, 1, 9) : i % 3 == 1 ? x.arc(0, 1, 1, 1, 9, 1)
                : x.ray(0, 1, 1, 1, 9, 1, 1);
            due.is("sighting " + i, got, i);
        }
        due.is("full glow", x.glow(0, 2, 1, 1, 9), -3);
        due.is("full arc", x.arc(0, 2, 1, 1, 9, 1), -3);
        due.is("full ray", x.ray(0, 2, 1, 1, 9, 1, 1), -3);
        due.is("bad glow", x.glow(0, 1, 1, 1, 89), -1);
        due.is("bad arc", x.arc(0, 1, 1, 1, 9, 5), -1);
        due.is("bad ray", x.ray(0, 1, 1, 1, 9, 1, 46), -1);
        due.is("forty", x.count(1), 40);
        due.is("one night", x.count(4), 1);
        due.is("last", x.told(39, 0), 0);
        due.is("behind the last", x.told(40, 0), -1001);
        due.is("far behind the last", x.told(41, 0), -1001);
    }
}
