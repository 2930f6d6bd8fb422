/** The edges of promises 1 to 13, sentence by sentence: what is taken last, what is refused first, what it leaves. */
public final class StationEdgesTest {
    private static final Edges e = new Edges("StationEdgesTest");
    private static final int BAD = Edges.BAD, FULL = Edges.FULL, NONE = Edges.NONE, NULL = Edges.NULL, CAST = Edges.CAST;
    private static final int MIN = Edges.MIN, MAX = Edges.MAX, FAR = -100000;

    public static void main(String[] args) {
        promise1();
        promise1Apart();
        promise2();
        promise3();
        promise3AtFirst();
        promise4();
        promise5();
        promise6();
        promise7();
        promise7BeyondTheDay();
        promise8();
        promise9();
        promise10();
        promise10Refused();
        promise11();
        promise12();
        promise12Cross();
        promise12Far();
        promise12Thick();
        promise12Meet();
        promise13();
        promise13Values();
        promise13Cut();
        e.end();
    }

    private static void promise1() {
        e.promise(1, "nothing is there");
        e.on(States::fresh);
        for (int what = 0; what < 5; what++) {
            e.takes(0, "count", what);
        }
        e.takes(0, "station", 0, 0);
        e.refuses(BAD, "clock", 0, 0, 0);
        e.refuses(BAD, "glow", 0, 0, 0, 0, 2);
        e.refuses(BAD, "arc", 0, 0, 0, 0, 2, 0);
        e.refuses(BAD, "ray", 0, 0, 0, 0, 2, 0, 0);
        e.refuses(BAD - 1000, "told", 0, 0);
        e.refuses(BAD, "colour", 0);
        e.refuses(BAD - 100, "lean", 0);
        e.refuses(BAD, "meets", 0, 1);
        e.refuses(BAD + FAR, "cross", 0, 1, 0);
        e.takes(0, "curtains", 0);
        e.refuses(BAD + FAR, "curtain", 0, 0, 0);
        e.refuses(BAD, "curtainOf", 0);
        e.takes(0, "ways", 0);
        e.refuses(BAD, "next", 0, 0);
        e.refuses(BAD, "overhead", 0, 0, 0);
        e.refuses(BAD, "watch", 0, 0, 0, 0, 0);
        e.refuses(BAD, "seen", 0, 0);
        e.refuses(BAD, "rate", 0, 0, 0, 0);
        for (int what = 0; what < 4; what++) {
            e.takes(0, "rate", -1, 0, 399, what);
        }
        e.takes(0, "round", 20);
        e.refuses(NONE, "best");
        e.refuses(BAD, "share", 0, 1);
        e.refuses(BAD - 10000, "mended", 0, 0);
        e.refuses(BAD, "moved", 0);
        for (int sheet = 0; sheet < 4; sheet++) {
            e.refuses(NULL, "drop", sheet);
            for (int lane = 0; lane < 3; lane++) {
                e.refuses(NULL, "item", sheet, lane, 0, 0);
                e.refuses(NULL, "arcs", sheet, lane, 0, 0);
            }
        }
        e.takes(20, "thick", 0);
        e.takes(20, "speed", 1);
    }

    /** Objects have nothing in common: one is new, though another is full. */
    private static void promise1Apart() {
        e.promise(1, "nothing is there, whatever another object holds");
        Asker other = new Asker();
        Asker full = States.full();
        for (int what = 0; what < 5; what++) {
            e.is("count " + what, other.ask("count", what), 0);
        }
        e.is("drop", other.ask("drop", 0), NULL);
        e.is("told", other.ask("told", 0, 0), BAD - 1000);
        e.is("count of the other", full.ask("count", 1), 40);
    }

    private static void promise2() {
        e.promise(2, "x, y 0 .. 2000 kilometres");
        e.on(States::busy);
        e.range(5, BAD, 0, 2000, 0, "station", 1000, 1000);
        e.range(5, BAD, 0, 2000, 1, "station", 1000, 1000);
        e.takes(5, "station", 0, 0);
        e.takes(5, "station", 2000, 2000);
        e.refuses(BAD, "station", -1, 2001);
        e.promise(2, "another at the same place is one of its own");
        e.takes(5, "station", 100, 0);
        e.promise(2, "numbers 0 .. 7, as they come");
        Asker x = new Asker();
        for (int i = 0; i < 8; i++) {
            e.is("refused ahead of " + i, x.ask("station", -1, i), BAD);
            e.is("station " + i, x.ask("station", 2000, i), i);
        }
        e.promise(2, "FULL: 8; the eighth comes, a ninth is refused");
        e.on(States::oneShort);
        e.takes(7, "station", 0, 0);
        e.on(States::full);
        e.refuses(FULL, "station", 0, 0);
        e.refuses(FULL, "station", 2000, 2000);
        e.promise(2, "BAD ahead of FULL");
        e.refuses(BAD, "station", -1, 0);
        e.refuses(BAD, "station", 0, 2001);
    }

    private static void promise3() {
        e.promise(3, "a STATION that is there");
        e.on(States::busy);
        e.range(1, BAD, 0, 4, 0, "clock", 2, 0, 0);
        e.promise(3, "LOW -60 .. 60");
        e.range(1, BAD, -60, 60, 1, "clock", 2, 0, 60);
        e.refuses(BAD, "clock", 2, -61, -61);
        e.promise(3, "HIGH -60 .. 60");
        e.range(1, BAD, -60, 60, 2, "clock", 2, -60, 0);
        e.refuses(BAD, "clock", 2, 61, 61);
        e.promise(3, "BAD: also LOW above HIGH");
        for (int low = -60; low <= 60; low += 15) {
            e.takes(1, "clock", 2, low, low);
            e.refuses(BAD, "clock", 2, low, low - 1);
        }
        e.takes(1, "clock", 2, -60, 60);
        e.refuses(BAD, "clock", 2, 60, -60);
        e.refuses(BAD, "clock", 2, MAX, MIN);
        e.on(States::full);
        e.range(1, BAD, 0, 7, 0, "clock", 2, 0, 0);
    }

    private static void promise3AtFirst() {
        e.promise(3, "0, 0 at first");
        Asker x = States.busy();
        e.is("first minute", x.ask("told", 0, 6), 100);
        e.is("last minute", x.ask("told", 0, 7), 100);
        e.is("least", x.ask("mended", 1, 0), 0);
        e.is("greatest", x.ask("mended", 1, 1), 0);
        e.promise(3, "what it tells as t was from t - HIGH to t - LOW");
        x.ask("clock", 0, -60, 59);
        e.is("first minute", x.ask("told", 0, 6), 41);
        e.is("last minute", x.ask("told", 0, 7), 160);
        x.ask("clock", 0, -59, 60);
        e.is("first minute, set again", x.ask("told", 0, 6), 40);
        e.is("last minute, set again", x.ask("told", 0, 7), 159);
        e.promise(3, "what is refused leaves both ends of a CLOCK");
        x.ask("clock", 0, 5, 61);
        x.ask("clock", 0, -61, 5);
        x.ask("clock", 0, 5, 4);
        e.is("first minute still", x.ask("told", 0, 6), 40);
        e.is("last minute still", x.ask("told", 0, 7), 159);
    }

    /** The numbers that all kinds of sightings have; more may come behind. */
    private static void sightingRanges(int number, String name, int... args) {
        e.promise(number, "a STATION that is there");
        e.range(8, BAD, 0, 4, 0, name, args);
        e.promise(number, "a NIGHT 0 .. 399");
        e.range(8, BAD, 0, 399, 1, name, args);
        e.promise(number, "a minute 0 .. 1439");
        e.range(8, BAD, 0, 1439, 2, name, args);
        e.promise(number, "a bearing 0 .. 359");
        e.range(8, BAD, 0, 359, 3, name, args);
        e.promise(number, "a height 2 .. 88");
        e.range(8, BAD, 2, 88, 4, name, args);
    }

    /** The fortieth comes, one more is refused; what is wrong is BAD nonetheless. */
    private static void sightingFull(int number, String name, int... args) {
        e.promise(number, "FULL: 40");
        e.on(States::oneShort);
        e.takes(39, name, args);
        e.on(States::full);
        e.refuses(FULL, name, args);
        e.promise(number, "BAD ahead of FULL");
        for (int i = 0; i < args.length; i++) {
            int[] wrong = args.clone();
            wrong[i] = i == 4 ? 1 : i == 6 ? 46 : -1;
            e.refuses(BAD, name, wrong);
        }
    }

    private static void promise4() {
        e.on(States::busy);
        sightingRanges(4, "glow", 2, 50, 600, 100, 40);
        sightingFull(4, "glow", 2, 50, 600, 100, 40);
        e.promise(4, "a GLOW is of kind 0 and as told");
        Asker x = States.busy();
        x.ask("glow", 4, 399, 1439, 359, 88);
        told(x, 8, 0, 4, 399, 1439, 359, 88);
    }

    private static void promise5() {
        e.on(States::busy);
        sightingRanges(5, "arc", 2, 50, 600, 100, 40, 2);
        e.promise(5, "a COLOUR 0 .. 4");
        e.range(8, BAD, 0, 4, 5, "arc", 2, 50, 600, 100, 40, 2);
        sightingFull(5, "arc", 2, 50, 600, 100, 40, 2);
        e.promise(5, "an ARC is of kind 1 and as told");
        Asker x = States.busy();
        x.ask("arc", 0, 0, 0, 0, 2, 4);
        told(x, 8, 1, 0, 0, 0, 0, 2);
        e.is("colour", x.ask("colour", 8), 4);
    }

    private static void promise6() {
        e.on(States::busy);
        sightingRanges(6, "ray", 2, 50, 600, 100, 40, 2, 0);
        e.promise(6, "a COLOUR 0 .. 4");
        e.range(8, BAD, 0, 4, 5, "ray", 2, 50, 600, 100, 40, 2, 0);
        e.promise(6, "a lean -45 .. 45");
        e.range(8, BAD, -45, 45, 6, "ray", 2, 50, 600, 100, 40, 2, 0);
        sightingFull(6, "ray", 2, 50, 600, 100, 40, 2, 0);
        e.promise(6, "a RAY is of kind 2 and as told");
        Asker x = States.busy();
        x.ask("ray", 4, 0, 1439, 0, 88, 0, -45);
        told(x, 8, 2, 4, 0, 1439, 0, 88);
        e.is("colour", x.ask("colour", 8), 0);
        e.is("lean", x.ask("lean", 8), -45);
    }

    private static void told(Asker x, int sighting, int... want) {
        for (int what = 0; what < want.length; what++) {
            e.is("told " + what, x.ask("told", sighting, what), want[what]);
        }
    }

    private static void promise7() {
        e.promise(7, "of a SIGHTING that is there: BAD less 1000");
        e.on(States::busy);
        e.takes(1, "told", 0, 0);
        e.takes(2, "told", 7, 0);
        e.beyond(BAD - 1000, 0, 7, 0, "told", 0, 0);
        e.promise(7, "what 0 .. 7: BAD less 1000");
        e.takes(0, "told", 4, 0);
        e.takes(110, "told", 4, 7);
        e.beyond(BAD - 1000, 0, 7, 1, "told", 4, 0);
        e.refuses(BAD - 1000, "told", -1, 8);
        e.promise(7, "the fortieth is the last");
        e.on(States::full);
        e.takes(0, "told", 39, 0);
        e.takes(139, "told", 39, 2);
        e.refuses(BAD - 1000, "told", 40, 0);
    }

    private static void promise7BeyondTheDay() {
        e.promise(7, "the first and the last minute are not cut at the day's ends");
        Asker x = new Asker();
        x.ask("station", 0, 0);
        x.ask("clock", 0, -60, 60);
        x.ask("glow", 0, 0, 0, 0, 2);
        x.ask("glow", 0, 399, 1439, 0, 2);
        told(x, 0, 0, 0, 0, 0, 0, 2, -60, 60);
        told(x, 1, 0, 0, 399, 1439, 0, 2, 1379, 1499);
        x.ask("clock", 0, 60, 60);
        told(x, 0, 0, 0, 0, 0, 0, 2, -60, -60);
        x.ask("clock", 0, 1, 1);
        told(x, 0, 0, 0, 0, 0, 0, 2, -1, -1);
        x.ask("clock", 0, -60, -60);
        told(x, 1, 0, 0, 399, 1439, 0, 2, 1499, 1499);
    }

    private static void promise8() {
        e.promise(8, "the COLOUR of an ARC or a RAY");
        e.on(States::busy);
        e.takes(0, "colour", 2);
        e.takes(4, "colour", 3);
        e.takes(3, "colour", 7);
        e.promise(8, "BAD: names nothing");
        e.beyond(BAD, 0, 7, 0, "colour", 0);
        e.promise(8, "CAST: a GLOW");
        e.refuses(CAST, "colour", 4);
        e.refuses(CAST, "colour", 5);
        e.on(States::full);
        e.refuses(CAST, "colour", 39);
        e.refuses(BAD, "colour", 40);
    }

    private static void promise9() {
        e.promise(9, "the lean of a RAY");
        e.on(States::busy);
        e.takes(-10, "lean", 1);
        e.takes(45, "lean", 7);
        e.promise(9, "BAD less 100");
        e.beyond(BAD - 100, 0, 7, 0, "lean", 1);
        e.promise(9, "CAST less 100: no RAY");
        e.refuses(CAST - 100, "lean", 0);
        e.refuses(CAST - 100, "lean", 4);
        Asker x = new Asker();
        x.ask("station", 0, 0);
        for (int lean : new int[] {-45, -1, 0, 45}) {
            e.is("lean " + lean, x.ask("lean", x.ask("ray", 0, 0, 0, 0, 2, 0, lean)), lean);
        }
    }

    private static void promise10() {
        e.on(States::fresh);
        e.promise(10, "SIN: to 90, to 180, to 359");
        int[][] sines = {{0, 0}, {1, 17}, {30, 500}, {89, 1000}, {90, 1000}, {91, 1000}, {150, 500}, {179, 17}, {180, 0},
            {181, -17}, {210, -500}, {269, -1000}, {270, -1000}, {271, -1000}, {330, -500}, {359, -17}};
        for (int[] s : sines) {
            e.takes(s[1], "table", 0, s[0]);
        }
        e.promise(10, "COS: SIN(d + 90), of 270 and more SIN(d - 270)");
        int[][] cosines = {{0, 1000}, {1, 1000}, {60, 500}, {89, 17}, {90, 0}, {91, -17}, {120, -500}, {180, -1000},
            {240, -500}, {269, -17}, {270, 0}, {271, 17}, {300, 500}, {359, 1000}};
        for (int[] c : cosines) {
            e.takes(c[1], "table", 1, c[0]);
        }
        e.promise(10, "TAN of 1 .. 89");
        int[][] tangents = {{1, 17}, {2, 35}, {44, 966}, {45, 1000}, {46, 1036}, {87, 19081}, {88, 28636}, {89, 57290}};
        for (int[] t : tangents) {
            e.takes(t[1], "table", 2, t[0]);
        }
    }

    private static void promise10Refused() {
        e.promise(10, "BAD less 100000");
        e.on(States::busy);
        e.beyond(BAD + FAR, 0, 2, 0, "table", 0, 45);
        e.beyond(BAD + FAR, 0, 359, 1, "table", 0, 45);
        e.beyond(BAD + FAR, 0, 359, 1, "table", 1, 45);
        e.beyond(BAD + FAR, 1, 89, 1, "table", 2, 45);
        e.refuses(BAD + FAR, "table", 2, 359);
        e.refuses(BAD + FAR, "table", 3, 0);
    }

    private static void promise11() {
        e.promise(11, "THICK 0 .. 200; 20 at first; what it was");
        e.on(States::fresh);
        e.range(20, BAD, 0, 200, 0, "thick", 7);
        e.on(States::busy);
        e.range(200, BAD, 0, 200, 0, "thick", 7);
        Asker x = new Asker();
        int before = 20;
        for (int n : new int[] {0, 200, 1, 199, 0}) {
            e.is("thick " + n, x.ask("thick", n), before);
            e.is("thick 201", x.ask("thick", 201), BAD);
            e.is("thick -1", x.ask("thick", -1), BAD);
            before = n;
        }
        e.is("the last", x.ask("thick", 20), 0);
    }

    private static void promise12() {
        e.on(States::busy);
        e.promise(12, "BAD: names nothing");
        e.takes(2, "meets", 0, 1);
        e.beyond(BAD, 0, 7, 0, "meets", 0, 1);
        e.beyond(BAD, 0, 7, 1, "meets", 0, 1);
        e.refuses(BAD, "meets", 8, 8);
        e.promise(12, "BAD: also one, of whichever kind");
        for (int s = 0; s < 8; s++) {
            e.refuses(BAD, "meets", s, s);
        }
        e.promise(12, "CAST: a GLOW");
        e.refuses(CAST, "meets", 0, 4);
        e.refuses(CAST, "meets", 4, 0);
        e.refuses(CAST, "meets", 4, 5);
        e.promise(12, "BAD ahead of CAST");
        e.refuses(BAD, "meets", 4, 8);
        e.refuses(BAD, "meets", -1, 4);
    }

    /** Two arcs of night 5, minute 100: x, y, bearing, height of the first, then of the second. */
    private static Asker pair(int thick, int... both) {
        Asker x = new Asker();
        x.ask("station", both[0], both[1]);
        x.ask("station", both[4], both[5]);
        x.ask("thick", thick);
        x.ask("arc", 0, 5, 100, both[2], both[3], 0);
        x.ask("arc", 1, 5, 100, both[6], both[7], 0);
        return x;
    }

    /** Whether they cross, asked either way round; then r and s, if they do. */
    private static void crosses(String what, Asker x, boolean due, int r, int s) {
        e.is(what, x.ask("meets", 0, 1), due ? 2 : 0);
        e.is(what + ", turned", x.ask("meets", 1, 0), due ? 2 : 0);
        e.is(what + ", r", x.ask("cross", 0, 1, 5), due ? r : NONE + FAR);
        e.is(what + ", s", x.ask("cross", 0, 1, 6), due ? s : NONE + FAR);
        e.is(what + ", turned, r", x.ask("cross", 1, 0, 5), due ? s : NONE + FAR);
        e.is(what + ", turned, s", x.ask("cross", 1, 0, 6), due ? r : NONE + FAR);
    }

    private static void promise12Cross() {
        e.promise(12, "CROSS: of unlike STATIONS");
        Asker x = pair(200, 100, 0, 0, 20, 0, 100, 90, 20);
        x.ask("arc", 0, 5, 100, 90, 20, 0);
        e.is("of one station", x.ask("meets", 0, 2), 0);
        e.is("of another", x.ask("meets", 0, 1), 2);
        crosses("at one place", pair(200, 100, 100, 0, 20, 100, 100, 90, 20), false, 0, 0);
        e.promise(12, "CROSS: D is not within -49999 .. 49999");
        // Of all bearings the D nearest to it are 35516 within and 51405 beyond.
        crosses("51405", pair(200, 500, 500, 28, 5, 550, 500, 25, 5), true, 881, 858);
        crosses("-51405", pair(200, 550, 500, 25, 5, 500, 500, 28, 5), true, 858, 881);
        crosses("35516", pair(200, 500, 500, 11, 5, 550, 500, 9, 5), false, 0, 0);
        crosses("0", pair(200, 500, 500, 11, 5, 550, 500, 11, 5), false, 0, 0);
        crosses("0, one against the other", pair(200, 500, 500, 90, 5, 550, 500, 270, 5), false, 0, 0);
        e.promise(12, "CROSS: over north, where bearings begin anew");
        crosses("359 and 2", pair(200, 550, 500, 359, 5, 500, 500, 2, 5), true, 960, 961);
        crosses("359 and 1", pair(200, 550, 500, 359, 5, 500, 500, 1, 5), false, 0, 0);
    }

    /** The first looks north from x = s, the second east from y = r: so r and s are just these. */
    private static Asker square(int r, int s, int h, int k) {
        return pair(200, s, 0, 0, h, 0, r, 90, k);
    }

    private static void promise12Far() {
        e.promise(12, "CROSS: r, s within 1 .. 1500");
        crosses("1, 1", square(1, 1, 20, 20), true, 1, 1);
        crosses("1500, 1500", square(1500, 1500, 2, 2), true, 1500, 1500);
        crosses("1, 1500", square(1, 1500, 88, 2), true, 1, 1500);
        crosses("1500, 1", square(1500, 1, 2, 88), true, 1500, 1);
        crosses("0, 1", square(0, 1, 20, 20), false, 0, 0);
        crosses("1, 0", square(1, 0, 20, 20), false, 0, 0);
        crosses("1501, 1500", square(1501, 1500, 2, 2), false, 0, 0);
        crosses("1500, 1501", square(1500, 1501, 2, 2), false, 0, 0);
        crosses("2000, 2000", square(2000, 2000, 2, 2), false, 0, 0);
        crosses("-1, 1", pair(200, 1, 1, 0, 20, 0, 0, 90, 20), false, 0, 0);
        crosses("1, -1", pair(200, 0, 0, 0, 20, 1, 1, 90, 20), false, 0, 0);
        e.promise(12, "CROSS: r, s are cut toward 0 ahead of that");
        crosses("r 1500.8", pair(200, 523, 450, 30, 2, 1470, 1622, 303, 13), true, 1500, 234);
        crosses("s 1500.96", pair(200, 502, 1550, 35, 3, 1800, 1050, 331, 2), true, 993, 1500);
        crosses("r 1501.02", pair(200, 116, 1550, 80, 2, 1762, 950, 349, 3), false, 0, 0);
        crosses("r 1.26", pair(200, 1850, 1560, 137, 88, 1800, 1471, 30, 10), true, 1, 101);
        crosses("r 0.74", pair(200, 432, 1000, 37, 2, 424, 1000, 86, 2), false, 0, 0);
        crosses("s 0.66", pair(200, 200, 700, 28, 2, 333, 949, 306, 2), false, 0, 0);
        crosses("r -0.39", pair(200, 550, 1050, 276, 2, 450, 1147, 134, 2), false, 0, 0);
        e.promise(12, "CROSS: 1000 times the sums goes beyond an int");
        // r is -2821; 1000 times its sum would wrap round to an r of 1474, which fits.
        crosses("r -2821", pair(200, 0, 2000, 315, 2, 1990, 0, 45, 82), false, 0, 0);
        crosses("both 1414", pair(200, 2000, 0, 315, 2, 0, 0, 45, 2), true, 1414, 1414);
    }

    private static void promise12Thick() {
        e.promise(12, "CROSS: they differ by THICK at most");
        // r and s are 1000, so how high they are is TAN itself: 287 and 87, 306 and 105, 364 and 344, 445 and 424.
        int[][] heights = {{16, 5, 200}, {17, 6, 201}, {20, 19, 20}, {24, 23, 21}, {20, 20, 0}, {12, 11, 19}};
        for (int[] h : heights) {
            for (int thick : new int[] {0, 18, 19, 20, 21, 199, 200}) {
                Asker x = pair(thick, 1000, 0, 0, h[0], 0, 1000, 90, h[1]);
                crosses(h[2] + " apart, THICK " + thick, x, h[2] <= thick, 1000, 1000);
                Asker y = pair(thick, 1000, 0, 0, h[1], 0, 1000, 90, h[0]);
                crosses(h[2] + " apart, THICK " + thick, y, h[2] <= thick, 1000, 1000);
            }
        }
        e.promise(12, "THICK is 20 at first");
        Asker x = new Asker();
        x.ask("station", 1000, 0);
        x.ask("station", 0, 1000);
        x.ask("arc", 0, 5, 100, 0, 20, 0);
        x.ask("arc", 1, 5, 100, 90, 19, 0);
        x.ask("arc", 0, 5, 100, 0, 24, 0);
        x.ask("arc", 1, 5, 100, 90, 23, 0);
        e.is("20 apart", x.ask("meets", 0, 1), 2);
        e.is("21 apart", x.ask("meets", 2, 3), 0);
        x.ask("thick", 201);
        e.is("21 apart, THICK refused", x.ask("meets", 2, 3), 0);
        x.ask("thick", 21);
        e.is("21 apart, THICK 21", x.ask("meets", 2, 3), 2);
    }

    private static void meetsAt(int want, int firstNight, int firstMinute, int night, int minute, int low, int high) {
        Asker x = new Asker();
        x.ask("station", 100, 0);
        x.ask("station", 0, 100);
        x.ask("clock", 0, low, high);
        x.ask("clock", 1, low, high);
        x.ask("arc", 0, firstNight, firstMinute, 0, 20, 0);
        x.ask("ray", 1, night, minute, 90, 20, 0, 0);
        String what = "nights " + firstNight + ", " + night + ", minutes " + firstMinute + ", " + minute + " by " + low
            + " to " + high;
        e.is(what, x.ask("meets", 0, 1), want);
        e.is(what + ", turned", x.ask("meets", 1, 0), want);
    }

    private static void promise12Meet() {
        e.promise(12, "MEET: what their minutes were can be one, ends counted");
        meetsAt(2, 5, 100, 5, 100, 0, 0);
        meetsAt(1, 5, 100, 5, 101, 0, 0);
        meetsAt(2, 5, 100, 5, 101, 0, 1);
        meetsAt(1, 5, 100, 5, 102, 0, 1);
        meetsAt(2, 5, 100, 5, 101, -1, 0);
        meetsAt(1, 5, 100, 5, 102, -1, 0);
        meetsAt(2, 5, 100, 5, 220, -60, 60);
        meetsAt(1, 5, 100, 5, 221, -60, 60);
        meetsAt(1, 5, 100, 5, 101, 60, 60);
        e.promise(12, "MEET: of one NIGHT; no minute goes over to another");
        meetsAt(1, 5, 100, 6, 100, -60, 60);
        meetsAt(1, 0, 1439, 1, 0, -60, 60);
        meetsAt(1, 398, 1439, 399, 0, -60, 60);
        meetsAt(1, 0, 0, 399, 0, 0, 0);
        meetsAt(1, 5, 0, 5, 1439, -60, 60);
        meetsAt(2, 0, 0, 0, 0, 60, 60);
        meetsAt(2, 399, 1439, 399, 1439, -60, -60);
    }

    private static void promise13() {
        e.on(States::busy);
        e.promise(13, "BAD less 100000: names nothing");
        e.takes(100, "cross", 0, 1, 0);
        e.beyond(BAD + FAR, 0, 7, 0, "cross", 0, 1, 0);
        e.beyond(BAD + FAR, 0, 7, 1, "cross", 0, 1, 0);
        e.promise(13, "what 0 .. 6");
        e.takes(100, "cross", 0, 1, 6);
        e.beyond(BAD + FAR, 0, 6, 2, "cross", 0, 1, 0);
        e.promise(13, "BAD less 100000: one is not two");
        for (int s = 0; s < 8; s++) {
            e.refuses(BAD + FAR, "cross", s, s, 0);
            e.refuses(BAD + FAR, "cross", s, s, 7);
        }
        e.promise(13, "CAST less that: a GLOW");
        e.refuses(CAST + FAR, "cross", 0, 4, 0);
        e.refuses(CAST + FAR, "cross", 4, 0, 6);
        e.refuses(CAST + FAR, "cross", 4, 5, 3);
        e.promise(13, "NONE less that: they do not");
        for (int what = 0; what < 7; what++) {
            e.refuses(NONE + FAR, "cross", 0, 2, what);
            e.refuses(NONE + FAR, "cross", 2, 0, what);
        }
        e.promise(13, "BAD ahead of CAST, BAD ahead of NONE");
        e.refuses(BAD + FAR, "cross", 4, 8, 0);
        e.refuses(BAD + FAR, "cross", 4, 0, 7);
        e.refuses(BAD + FAR, "cross", 0, 2, -1);
        e.promise(13, "they may CROSS without a NIGHT or a minute in common");
        Asker x = States.busy();
        x.ask("arc", 3, 399, 0, 90, 20, 0);
        e.is("meets", x.ask("meets", 0, 8), 1);
        e.is("x", x.ask("cross", 0, 8, 0), 100);
        e.is("y", x.ask("cross", 0, 8, 1), 100);
    }

    private static void values(String what, Asker x, int... want) {
        for (int i = 0; i < want.length; i++) {
            e.is(what + ", what " + i, x.ask("cross", 0, 1, i), want[i]);
        }
    }

    private static void promise13Values() {
        e.promise(13, "the ENDS at the least height, TAN(1)");
        values("heights 2, 2", square(1000, 1000, 2, 2), 1000, 1000, 35, 17, 52, 1000, 1000);
        e.promise(13, "the ENDS at the greatest height, TAN(89)");
        values("heights 88, 88", square(1500, 1500, 88, 88), 1500, 1500, 42954, 28621, 85935, 1500, 1500);
        values("heights 88, 88, near", square(1, 1, 88, 88), 1, 1, 28, 19, 57, 1, 1);
        e.promise(13, "half of both is cut; the greater of the lower, the lesser of the upper ENDS");
        values("heights 2, 3", square(1000, 1000, 2, 3), 1000, 1000, 43, 35, 52, 1000, 1000);
        values("heights 3, 2", square(1000, 1000, 3, 2), 1000, 1000, 43, 35, 52, 1000, 1000);
        values("heights 2, 8", square(1000, 1000, 2, 8), 1000, 1000, 88, 123, 52, 1000, 1000);
    }

    private static void promise13Cut() {
        e.promise(13, "x, y: each cut toward 0, then added");
        values("to the south-west", pair(200, 100, 100, 250, 30, 0, 300, 200, 22), -98, 28, 118, 116, 122, 211, 289);
        values("to the north-east", pair(20, 0, 0, 45, 20, 400, 0, 315, 21), 199, 199, 105, 102, 108, 282, 282);
        values("to the north-west", pair(20, 400, 0, 315, 21, 0, 0, 45, 20), 201, 199, 105, 102, 108, 282, 282);
        values("far to the north-west", pair(200, 2000, 0, 315, 2, 0, 0, 45, 2), 1001, 999, 49, 24, 73, 1414, 1414);
        values("far to the north-east", pair(200, 0, 0, 45, 2, 2000, 0, 315, 2), 999, 999, 49, 24, 73, 1414, 1414);
        e.promise(13, "x, y may be beyond where STATIONS are");
        values("below 0", pair(200, 0, 0, 225, 5, 100, 0, 240, 5), -136, -136, 19, 19, 20, 193, 273);
    }
}
