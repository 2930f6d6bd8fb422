/** The edges of promises 14 to 20, sentence by sentence: what is taken last, what is refused first, what it leaves. */
public final class CurtainEdgesTest {
    private static final Edges e = new Edges("CurtainEdgesTest");
    private static final int BAD = Edges.BAD, FULL = Edges.FULL, NONE = Edges.NONE, CAST = Edges.CAST;
    private static final int MIN = Edges.MIN, MAX = Edges.MAX, FAR = -100000;

    public static void main(String[] args) {
        promise14();
        promise14Ten();
        promise14Fewest();
        promise15();
        promise15Full();
        promise15Time();
        promise15TimeOfTwo();
        promise15Place();
        promise15PlaceOfMost();
        promise16();
        promise17();
        promise18();
        promise18Followed();
        promise18Speed();
        promise18Most();
        promise19();
        promise19First();
        promise20();
        promise20Nearest();
        promise20Like();
        e.end();
    }

    /** A night 0 of so many arcs and rays, none of which meets another, and of as many glows; night 1 has an arc. */
    private static Asker night(int arcs) {
        Asker x = new Asker();
        x.ask("station", 0, 0);
        for (int i = 0; i < arcs; i++) {
            x.ask(i % 2 == 0 ? "arc" : "ray", i % 2 == 0 ? new int[] {0, 0, 100 + i, 0, 20, 0}
                : new int[] {0, 0, 100 + i, 0, 20, 0, 0});
            x.ask("glow", 0, 0, 100 + i, 0, 20);
        }
        x.ask("arc", 0, 1, 100, 0, 20, 0);
        return x;
    }

    private static Asker ten() {
        return night(10);
    }

    private static Asker eleven() {
        return night(11);
    }

    private static void promise14() {
        e.promise(14, "BAD: a NIGHT 0 .. 399");
        e.on(States::busy);
        e.takes(0, "curtains", 0);
        e.takes(1, "curtains", 399);
        e.beyond(BAD, 0, 399, 0, "curtains", 0);
        e.promise(14, "how many CURTAINS: none, one");
        e.on(States::fresh);
        e.takes(0, "curtains", 0);
        e.takes(0, "curtains", 399);
        Asker one = new Asker();
        one.ask("station", 0, 0);
        one.ask("glow", 0, 399, 0, 0, 20);
        e.is("of a glow none", one.ask("curtains", 399), 0);
        one.ask("arc", 0, 399, 0, 0, 20, 0);
        e.is("of one arc one", one.ask("curtains", 399), 1);
        e.is("in its night alone", one.ask("curtains", 398), 0);
    }

    private static void promise14Ten() {
        e.promise(14, "10 at most, GLOWS and other NIGHTS not counted");
        e.on(CurtainEdgesTest::ten);
        e.takes(10, "curtains", 0);
        e.takes(1, "curtains", 1);
        e.promise(14, "FULL: more than 10 ARCS and RAYS");
        e.on(CurtainEdgesTest::eleven);
        e.refuses(FULL, "curtains", 0);
        e.takes(1, "curtains", 1);
        e.on(States::full);
        e.refuses(FULL, "curtains", 11);
        e.refuses(BAD, "curtains", 400);
        e.refuses(BAD, "curtains", -1);
        e.takes(1, "curtains", 112);
        e.promise(14, "FULL comes with the eleventh");
        Asker x = night(9);
        e.is("nine", x.ask("curtains", 0), 9);
        x.ask("ray", 0, 0, 500, 0, 20, 0, 0);
        e.is("ten", x.ask("curtains", 0), 10);
        x.ask("glow", 0, 0, 500, 0, 20);
        e.is("ten and a glow", x.ask("curtains", 0), 10);
        x.ask("ray", 0, 0, 501, 0, 20, 0, 0);
        e.is("eleven", x.ask("curtains", 0), FULL);
    }

    /** Eight stations that stand round one place, 800 from it, and look at it. */
    private static Asker ring() {
        Asker x = new Asker();
        int[][] at = {{1000, 200}, {726, 248}, {486, 387}, {307, 600}, {212, 861}, {212, 1139}, {307, 1400}, {486, 1613}};
        x.ask("thick", 200);
        for (int[] p : at) {
            x.ask("station", p);
        }
        return x;
    }

    private static int look(Asker x, int station, int minute) {
        return x.ask("arc", station, 0, minute, 20 * station, 7, 0);
    }

    private static void promise14Fewest() {
        e.promise(14, "the fewest sets in which any two MEET: as many as STATIONS can be in one");
        Asker x = ring();
        for (int station = 0; station < 8; station++) {
            look(x, station, 100);
            e.is("one, of " + (station + 1), x.ask("curtains", 0), 1);
        }
        look(x, 3, 100);
        e.is("no two of one station", x.ask("curtains", 0), 2);
        look(x, 3, 100);
        e.is("no three of one station", x.ask("curtains", 0), 3);
        e.promise(14, "of as few the first, the lesser set first");
        Asker y = ring();
        for (int i = 0; i < 10; i++) {
            look(y, i / 2, 100);
        }
        e.is("two of each of five", y.ask("curtains", 0), 2);
        for (int i = 0; i < 10; i++) {
            e.is("the set of " + i, y.ask("curtainOf", i), i % 2);
        }
        e.promise(14, "the fewest, though what comes first would fit into a lesser set");
        Asker w = ring();
        for (int station = 0; station < 4; station++) {
            w.ask("clock", station, 0, 10);
        }
        int[] loose = {120, 130, 110, 140};
        for (int i = 0; i < 4; i++) {
            look(w, i, loose[i]);
        }
        e.is("0 with 1 or 2, 3 with 1 alone", w.ask("curtains", 0), 2);
        for (int i = 0; i < 4; i++) {
            e.is("the set of " + i, w.ask("curtainOf", i), i % 2);
        }
        e.promise(14, "of each NIGHT by itself, whichever was asked ahead");
        w.ask("arc", 0, 1, 120, 0, 7, 0);
        w.ask("arc", 1, 1, 120, 200, 7, 0);
        w.ask("arc", 2, 1, 120, 220, 7, 0);
        e.is("night 0", w.ask("curtains", 0), 2);
        e.is("night 1", w.ask("curtains", 1), 3);
        e.is("night 0 again", w.ask("curtains", 0), 2);
        e.promise(14, "sets are numbered as they begin");
        Asker z = ring();
        int[] minutes = {300, 100, 200, 100, 300, 200};
        int[] sets = {0, 1, 2, 1, 0, 2};
        for (int i = 0; i < 6; i++) {
            look(z, i, minutes[i]);
        }
        for (int i = 0; i < 6; i++) {
            e.is("the set of " + i, z.ask("curtainOf", i), sets[i]);
        }
    }

    private static void promise15() {
        e.on(States::busy);
        e.promise(15, "what 0 .. 5 of CURTAIN k");
        int[][] want = {{2, 100, 100, 100, 36, 0}, {2, 110, 200, 200, 72, 2}};
        for (int k = 0; k < 2; k++) {
            for (int what = 0; what < 6; what++) {
                e.takes(want[k][what], "curtain", 7, k, what);
            }
        }
        e.promise(15, "BAD less 100000");
        e.beyond(BAD + FAR, 0, 399, 0, "curtain", 7, 0, 0);
        e.beyond(BAD + FAR, 0, 1, 1, "curtain", 7, 0, 0);
        e.beyond(BAD + FAR, 0, 5, 2, "curtain", 7, 0, 0);
        e.promise(15, "BAD less 100000: a NIGHT without CURTAINS");
        for (int what = 0; what < 6; what++) {
            e.refuses(BAD + FAR, "curtain", 0, 0, what);
        }
        e.promise(15, "NONE less that: it has no PLACE, what 2 .. 4");
        e.takes(1, "curtain", 9, 0, 0);
        e.takes(1439, "curtain", 9, 0, 1);
        e.takes(6, "curtain", 9, 0, 5);
        for (int what = 2; what <= 4; what++) {
            e.refuses(NONE + FAR, "curtain", 9, 0, what);
        }
        e.promise(15, "BAD ahead of NONE");
        e.refuses(BAD + FAR, "curtain", 9, 1, 2);
        e.refuses(BAD + FAR, "curtain", 9, -1, 3);
        e.refuses(BAD + FAR, "curtain", 9, 0, 6);
        e.promise(15, "ends of the NIGHTS");
        e.takes(4, "curtain", 399, 0, 1);
        e.takes(7, "curtain", 399, 0, 5);
    }

    private static void promise15Full() {
        e.promise(15, "10 CURTAINS, k 0 .. 9");
        e.on(CurtainEdgesTest::ten);
        e.takes(109, "curtain", 0, 9, 1);
        e.takes(18, "curtain", 0, 9, 5);
        e.refuses(BAD + FAR, "curtain", 0, 10, 1);
        e.promise(15, "FULL less that");
        e.on(CurtainEdgesTest::eleven);
        for (int what = 0; what < 6; what++) {
            e.refuses(FULL + FAR, "curtain", 0, 0, what);
        }
        e.refuses(FULL + FAR, "curtain", 0, 9, 0);
        e.takes(100, "curtain", 1, 0, 1);
        e.promise(15, "BAD ahead of FULL");
        e.refuses(BAD + FAR, "curtain", 400, 0, 0);
        e.refuses(BAD + FAR, "curtain", 0, 0, 6);
        e.refuses(BAD + FAR, "curtain", 0, 0, -1);
        e.refuses(BAD + FAR, "curtain", 0, -1, 0);
    }

    private static void timeOf(int want, int minute, int low, int high) {
        Asker x = new Asker();
        x.ask("station", 0, 0);
        x.ask("clock", 0, low, high);
        x.ask("arc", 0, 0, minute, 0, 20, 0);
        e.is("TIME of " + minute + " by " + low + " to " + high, x.ask("curtain", 0, 0, 1), want);
    }

    private static void promise15Time() {
        e.promise(15, "TIME: the middle, cut down towards the lesser");
        timeOf(0, 0, 0, 0);
        timeOf(0, 1, 0, 1);
        timeOf(-1, 0, 0, 1);
        timeOf(-2, 0, 1, 2);
        timeOf(0, 0, -1, 0);
        timeOf(1, 0, -2, -1);
        timeOf(0, 0, -60, 60);
        e.promise(15, "TIME is not cut at the day's ends");
        timeOf(-60, 0, 60, 60);
        timeOf(-60, 0, 59, 60);
        timeOf(1499, 1439, -60, -60);
        timeOf(1498, 1439, -60, -59);
        timeOf(1439, 1439, -60, 60);
    }

    private static void timeOfTwo(int want, int[] first, int[] second) {
        for (int turned = 0; turned < 2; turned++) {
            int[] a = turned == 0 ? first : second;
            int[] b = turned == 0 ? second : first;
            Asker x = new Asker();
            x.ask("station", 100, 0);
            x.ask("station", 0, 100);
            x.ask("clock", 0, a[1], a[2]);
            x.ask("clock", 1, b[1], b[2]);
            x.ask("arc", 0, 0, a[0], 0, 20, 0);
            x.ask("arc", 1, 0, b[0], 90, 20, 0);
            e.is("one curtain", x.ask("curtains", 0), 1);
            e.is("TIME of " + a[0] + " and " + b[0], x.ask("curtain", 0, 0, 1), want);
        }
    }

    private static void promise15TimeOfTwo() {
        e.promise(15, "TIME: of the latest beginning and the earliest end");
        timeOfTwo(101, new int[] {100, -3, 0}, new int[] {102, 0, 5});
        timeOfTwo(101, new int[] {100, -3, 0}, new int[] {103, 0, 9});
        timeOfTwo(100, new int[] {100, 0, 0}, new int[] {103, 0, 3});
        timeOfTwo(100, new int[] {100, 0, 0}, new int[] {130, -60, 60});
        timeOfTwo(160, new int[] {100, -60, 60}, new int[] {220, -60, 60});
        timeOfTwo(-2, new int[] {0, 0, 2}, new int[] {0, 1, 9});
    }

    /** Three arcs of night 0 at one minute: x, y, bearing, height of each. */
    private static Asker three(int[]... all) {
        Asker x = new Asker();
        x.ask("thick", 200);
        for (int[] a : all) {
            int station = x.ask("station", a[0], a[1]);
            x.ask("arc", station, 0, 0, a[2], a[3], 0);
        }
        return x;
    }

    private static void promise15Place() {
        e.promise(15, "PLACE: x, y, HEIGHT summed, by how many pairs, cut toward 0");
        // Pairs 0 1, 0 2, 1 2: x -108, -104, -111; y 108, 104, 107; HEIGHT 84, 81, 81.
        Asker west = three(new int[] {0, 0, 315, 30}, new int[] {0, 200, 230, 30}, new int[] {100, 50, 285, 20});
        e.is("size", west.ask("curtain", 0, 0, 0), 3);
        e.is("x, -323 by 3", west.ask("curtain", 0, 0, 2), -107);
        e.is("y, 319 by 3", west.ask("curtain", 0, 0, 3), 106);
        e.is("height, 246 by 3", west.ask("curtain", 0, 0, 4), 82);
        Asker south = three(new int[] {0, 0, 135, 30}, new int[] {200, 0, 220, 30}, new int[] {50, 100, 165, 20});
        e.is("x, 319 by 3", south.ask("curtain", 0, 0, 2), 106);
        e.is("y, -323 by 3", south.ask("curtain", 0, 0, 3), -107);
        e.promise(15, "PLACE: the lesser number as the first");
        for (int turned = 0; turned < 2; turned++) {
            Asker y = new Asker();
            y.ask("station", 0, 0);
            y.ask("station", 400, 0);
            y.ask("arc", turned, 0, 0, turned == 0 ? 45 : 315, 20, 0);
            y.ask("arc", 1 - turned, 0, 0, turned == 0 ? 315 : 45, 20, 0);
            e.is("x", y.ask("curtain", 0, 0, 2), turned == 0 ? 199 : 201);
        }
    }

    private static void promise15PlaceOfMost() {
        e.promise(15, "PLACE of eight SIGHTINGS, 28 pairs");
        Asker x = ring();
        for (int station = 0; station < 8; station++) {
            look(x, station, 100);
        }
        int[] sums = new int[3];
        for (int a = 0; a < 8; a++) {
            for (int b = a + 1; b < 8; b++) {
                for (int what = 0; what < 3; what++) {
                    sums[what] += x.ask("cross", a, b, what);
                }
            }
        }
        e.is("size", x.ask("curtain", 0, 0, 0), 8);
        for (int what = 0; what < 3; what++) {
            e.is("PLACE, what " + (what + 2), x.ask("curtain", 0, 0, what + 2), sums[what] / 28);
        }
        e.is("first", x.ask("curtain", 0, 0, 5), 0);
    }

    private static void promise16() {
        e.on(States::busy);
        e.promise(16, "the CURTAIN of a SIGHTING");
        int[] want = {0, 0, 1, 1, CAST, CAST, 0, 0};
        for (int s = 0; s < 8; s++) {
            if (want[s] >= 0) {
                e.takes(want[s], "curtainOf", s);
            }
        }
        e.promise(16, "BAD: names nothing");
        e.beyond(BAD, 0, 7, 0, "curtainOf", 0);
        e.promise(16, "CAST: a GLOW");
        e.refuses(CAST, "curtainOf", 4);
        e.refuses(CAST, "curtainOf", 5);
        e.promise(16, "FULL");
        e.on(CurtainEdgesTest::ten);
        e.takes(9, "curtainOf", 18);
        e.on(CurtainEdgesTest::eleven);
        e.refuses(FULL, "curtainOf", 0);
        e.refuses(FULL, "curtainOf", 20);
        e.takes(0, "curtainOf", 22);
        e.promise(16, "CAST ahead of FULL");
        e.refuses(CAST, "curtainOf", 1);
        e.on(States::full);
        e.refuses(CAST, "curtainOf", 11);
        e.refuses(FULL, "curtainOf", 10);
        e.takes(0, "curtainOf", 38);
        e.refuses(BAD, "curtainOf", 40);
    }

    private static void promise17() {
        e.promise(17, "SPEED 1 .. 60; 20 at first; what it was");
        e.on(States::fresh);
        e.range(20, BAD, 1, 60, 0, "speed", 7);
        e.on(States::busy);
        e.range(30, BAD, 1, 60, 0, "speed", 7);
        Asker x = new Asker();
        int before = 20;
        for (int v : new int[] {1, 60, 2, 59, 1}) {
            e.is("speed " + v, x.ask("speed", v), before);
            e.is("speed 61", x.ask("speed", 61), BAD);
            e.is("speed 0", x.ask("speed", 0), BAD);
            before = v;
        }
        e.is("the last", x.ask("speed", 20), 1);
    }

    private static void promise18() {
        e.on(States::busy);
        e.promise(18, "BAD: a NIGHT 0 .. 399");
        e.takes(1, "ways", 7);
        e.takes(0, "ways", 0);
        e.takes(0, "ways", 399);
        e.beyond(BAD, 0, 399, 0, "ways", 7);
        e.promise(18, "CURTAINS without a PLACE are in no WAY");
        e.takes(0, "ways", 9);
        e.on(CurtainEdgesTest::ten);
        e.takes(0, "ways", 0);
        e.promise(18, "FULL");
        e.on(CurtainEdgesTest::eleven);
        e.refuses(FULL, "ways", 0);
        e.takes(0, "ways", 1);
    }

    /** Curtain 0 at x, y, minute of a, curtain 1 at those of b; the stations look north from y 0, east from x 0. */
    private static Asker two(int speed, int[] a, int[] b) {
        Asker x = new Asker();
        x.ask("thick", 200);
        x.ask("speed", speed);
        for (int[] p : new int[][] {a, b}) {
            int first = x.ask("station", p[0], 0);
            int second = x.ask("station", 0, p[1]);
            x.ask("arc", first, 0, p[2], 0, 2, 0);
            x.ask("arc", second, 0, p[2], 90, 2, 0);
        }
        return x;
    }

    private static void follows(boolean due, int speed, int minutes, int east, int north) {
        Asker x = two(speed, new int[] {1300, 1300, 300}, new int[] {1300 + east, 1300 + north, 300 + minutes});
        String what = "SPEED " + speed + ", " + minutes + " minutes, " + east + ", " + north;
        e.is(what + ", curtains", x.ask("curtains", 0), 2);
        e.is(what + ", ways", x.ask("ways", 0), due ? 1 : 2);
        e.is(what + ", next", x.ask("next", 0, 0), due ? 1 : NONE);
        e.is(what + ", next of the last", x.ask("next", 0, 1), NONE);
    }

    private static void promise18Followed() {
        e.promise(18, "FOLLOWED: b's TIME is later");
        follows(false, 60, 0, 0, 0);
        follows(true, 1, 1, 0, 0);
        Asker x = two(60, new int[] {100, 100, 300}, new int[] {100, 100, 299});
        e.is("the earlier by the later", x.ask("next", 0, 1), 0);
        e.is("never the later by the earlier", x.ask("next", 0, 0), NONE);
        e.promise(18, "FOLLOWED: both have a PLACE");
        // What has no PLACE is nowhere, also not near 0, 0.
        Asker y = two(60, new int[] {1, 1, 300}, new int[] {2, 2, 310});
        y.ask("arc", 0, 0, 290, 0, 2, 0);
        y.ask("arc", 0, 0, 305, 0, 2, 0);
        y.ask("arc", 0, 0, 320, 0, 2, 0);
        e.is("five curtains", y.ask("curtains", 0), 5);
        e.is("one way", y.ask("ways", 0), 1);
        int[] nexts = {1, NONE, NONE, NONE, NONE};
        for (int k = 0; k < 5; k++) {
            e.is("next " + k, y.ask("next", 0, k), nexts[k]);
        }
        e.promise(18, "FOLLOWED: no farther than SPEED times the minutes between");
        follows(true, 10, 10, 100, 0);
        follows(false, 10, 10, 101, 0);
        follows(true, 10, 10, 0, -100);
        follows(false, 10, 10, 0, -101);
        follows(true, 10, 10, 60, -80);
        follows(false, 10, 10, 60, -81);
        follows(false, 10, 10, 61, 80);
        follows(false, 10, 10, 100, 1);
    }

    private static void promise18Speed() {
        e.promise(18, "FOLLOWED: by the least SPEED");
        follows(true, 1, 1, 1, 0);
        follows(false, 1, 1, 1, 1);
        follows(false, 1, 1, -2, 0);
        e.promise(18, "FOLLOWED: by the greatest SPEED");
        follows(true, 60, 1, -60, 0);
        follows(false, 60, 1, -61, 0);
        follows(true, 60, 20, -1200, 0);
        follows(false, 60, 20, -1201, 0);
        e.promise(18, "FOLLOWED: by squares beyond an int");
        follows(true, 60, 773, -1200, -1200);
        follows(true, 60, 1139, 200, 200);
        e.promise(18, "FOLLOWED: by the SPEED as it is now");
        Asker slow = two(60, new int[] {100, 100, 300}, new int[] {160, 100, 301});
        e.is("fast enough", slow.ask("ways", 0), 1);
        slow.ask("speed", 59);
        e.is("too slow", slow.ask("ways", 0), 2);
        e.is("too slow", slow.ask("next", 0, 0), NONE);
        e.promise(18, "FOLLOWED: by a SPEED that was refused it is not");
        Asker x = two(1, new int[] {100, 100, 300}, new int[] {102, 100, 301});
        e.is("too slow", x.ask("ways", 0), 2);
        x.ask("speed", 61);
        x.ask("speed", 0);
        e.is("still", x.ask("ways", 0), 2);
        x.ask("speed", 2);
        e.is("fast enough", x.ask("ways", 0), 1);
    }

    /** Five curtains at one place, as many as can have one, so many minutes behind one another. */
    private static Asker five(int apart) {
        Asker x = new Asker();
        x.ask("station", 100, 0);
        x.ask("station", 0, 100);
        for (int i = 0; i < 5; i++) {
            x.ask("arc", 0, 0, 100 + apart * i, 0, 20, 0);
            x.ask("arc", 1, 0, 100 + apart * i, 90, 20, 0);
        }
        return x;
    }

    private static void promise18Most() {
        e.promise(18, "the fewest: all in one row");
        Asker x = five(1);
        e.is("curtains", x.ask("curtains", 0), 5);
        e.is("ways", x.ask("ways", 0), 1);
        for (int k = 0; k < 5; k++) {
            e.is("next " + k, x.ask("next", 0, k), k < 4 ? k + 1 : NONE);
        }
        e.promise(18, "each in a row of its own, if none is later");
        Asker y = five(0);
        e.is("curtains", y.ask("curtains", 0), 5);
        e.is("ways", y.ask("ways", 0), 5);
        for (int k = 0; k < 5; k++) {
            e.is("next " + k, y.ask("next", 0, k), NONE);
        }
        e.promise(18, "the last number comes first, if it is the earliest");
        Asker z = five(-1);
        e.is("ways", z.ask("ways", 0), 1);
        for (int k = 0; k < 5; k++) {
            e.is("next " + k, z.ask("next", 0, k), k > 0 ? k - 1 : NONE);
        }
    }

    private static void promise19() {
        e.on(States::busy);
        e.promise(19, "what FOLLOWS CURTAIN k");
        e.takes(1, "next", 7, 0);
        e.promise(19, "BAD");
        e.beyond(BAD, 0, 399, 0, "next", 7, 0);
        e.beyond(BAD, 0, 1, 1, "next", 7, 0);
        e.refuses(BAD, "next", 0, 0);
        e.promise(19, "NONE: the last of its WAY, or in none");
        e.refuses(NONE, "next", 7, 1);
        e.refuses(NONE, "next", 9, 0);
        e.refuses(NONE, "next", 399, 0);
        e.on(CurtainEdgesTest::ten);
        e.refuses(NONE, "next", 0, 9);
        e.refuses(BAD, "next", 0, 10);
        e.promise(19, "FULL");
        e.on(CurtainEdgesTest::eleven);
        e.refuses(FULL, "next", 0, 0);
        e.refuses(FULL, "next", 0, 9);
        e.refuses(NONE, "next", 1, 0);
        e.promise(19, "BAD ahead of FULL");
        e.refuses(BAD, "next", 0, -1);
        e.refuses(BAD, "next", 400, 0);
    }

    /** Curtains of night 0, each at x, y and a minute; a place's stations are made once. */
    private static Asker places(int[]... all) {
        Asker x = new Asker();
        x.ask("thick", 200);
        int[] xs = {100, 200, 300};
        int[] ys = {100, 200, 300};
        for (int v : xs) {
            x.ask("station", v, 0);
        }
        for (int v : ys) {
            x.ask("station", 0, v);
        }
        for (int[] p : all) {
            x.ask("arc", p[0] / 100 - 1, 0, p[2], 0, 20, 0);
            x.ask("arc", p[1] / 100 + 2, 0, p[2], 90, 20, 0);
        }
        return x;
    }

    private static void nexts(String what, Asker x, int ways, int... want) {
        e.is(what + ", ways", x.ask("ways", 0), ways);
        for (int k = 0; k < want.length; k++) {
            e.is(what + ", next " + k, x.ask("next", 0, k), want[k]);
        }
    }

    private static void promise19First() {
        e.promise(19, "of as few the first by what CURTAIN 0 is FOLLOWED by, the lesser first");
        nexts("1 or 2", places(new int[] {100, 100, 100}, new int[] {100, 200, 110}, new int[] {200, 100, 110}), 2,
            1, NONE, NONE);
        e.promise(19, "of as few the first, none last");
        nexts("0 or 1", places(new int[] {100, 100, 100}, new int[] {200, 200, 100}, new int[] {100, 200, 120}), 2,
            2, NONE, NONE);
        e.promise(19, "the fewest ahead of the first");
        nexts("only 2 for 1", places(new int[] {200, 200, 100}, new int[] {100, 200, 101}, new int[] {200, 200, 106},
            new int[] {300, 200, 107}), 2, 3, 2, NONE, NONE);
        e.promise(19, "then by what 1 is FOLLOWED by");
        nexts("0 by 2, 1 by 3", places(new int[] {100, 100, 100}, new int[] {100, 200, 100}, new int[] {200, 100, 150},
            new int[] {200, 200, 150}), 2, 2, 3, NONE, NONE);
    }

    private static void promise20() {
        e.on(States::busy);
        e.promise(20, "BAD: a STATION that is there");
        e.range(0, BAD, 0, 4, 2, "overhead", 7, 0, 0);
        e.promise(20, "BAD");
        e.beyond(BAD, 0, 399, 0, "overhead", 7, 0, 0);
        e.beyond(BAD, 0, 1, 1, "overhead", 7, 0, 0);
        e.refuses(BAD, "overhead", 0, 0, 0);
        e.promise(20, "NONE: nothing FOLLOWS it");
        e.refuses(NONE, "overhead", 7, 1, 0);
        e.refuses(NONE, "overhead", 9, 0, 4);
        e.refuses(NONE, "overhead", 399, 0, 0);
        e.promise(20, "BAD ahead of NONE");
        e.refuses(BAD, "overhead", 7, 1, 5);
        e.refuses(BAD, "overhead", 9, 0, -1);
        e.promise(20, "FULL");
        e.on(CurtainEdgesTest::eleven);
        e.refuses(FULL, "overhead", 0, 0, 0);
        e.refuses(FULL, "overhead", 0, 9, 0);
        e.refuses(NONE, "overhead", 1, 0, 0);
        e.promise(20, "BAD ahead of FULL");
        e.refuses(BAD, "overhead", 0, 0, 1);
        e.refuses(BAD, "overhead", 0, 0, MIN);
        e.refuses(BAD, "overhead", 0, 0, MAX);
        e.refuses(BAD, "overhead", 0, -1, 0);
        e.refuses(BAD, "overhead", 400, 0, 0);
    }

    /** A curtain on x 100 from one y to another within so many minutes, and a station there; then the same on y 100. */
    private static void nearest(int want, int from, int to, int minutes, int station) {
        String what = from + " to " + to + " in " + minutes + " minutes, over " + station;
        Asker north = two(60, new int[] {100, from, 300}, new int[] {100, to, 300 + minutes});
        north.ask("station", 100, station);
        e.is(what + ", by y", north.ask("overhead", 0, 0, 4), want);
        Asker east = two(60, new int[] {from, 100, 300}, new int[] {to, 100, 300 + minutes});
        east.ask("station", station, 100);
        e.is(what + ", by x", east.ask("overhead", 0, 0, 4), want);
    }

    private static void promise20Nearest() {
        e.promise(20, "n 0 .. 120: the least");
        nearest(0, 100, 110, 10, 0);
        nearest(0, 100, 110, 10, 109);
        nearest(0, 100, 110, 10, 110);
        nearest(1, 100, 110, 10, 111);
        e.promise(20, "n 0 .. 120: the greatest");
        nearest(119, 100, 110, 10, 229);
        nearest(120, 100, 110, 10, 230);
        nearest(120, 100, 110, 10, 231);
        nearest(120, 100, 110, 10, 2000);
        nearest(119, 310, 300, 10, 181);
        nearest(120, 310, 300, 10, 180);
        nearest(120, 310, 300, 10, 179);
        e.promise(20, "one minute between");
        nearest(0, 100, 110, 1, 110);
        nearest(2, 100, 110, 1, 130);
        nearest(120, 100, 110, 1, 1310);
        e.promise(20, "beyond where STATIONS can be");
        nearest(4, 250, 200, 1, 0);
    }

    private static void promise20Like() {
        e.promise(20, "of like ones the least");
        nearest(0, 100, 120, 10, 121);
        nearest(1, 100, 120, 10, 123);
        nearest(0, 100, 100, 10, 500);
        nearest(2, 100, 105, 10, 106);
        e.promise(20, "how far it went is cut toward 0");
        nearest(2, 200, 195, 10, 194);
        nearest(4, 200, 195, 10, 193);
        nearest(120, 200, 195, 10, 135);
        e.promise(20, "FOLLOWED by CURTAIN 0");
        Asker z = two(60, new int[] {100, 110, 310}, new int[] {100, 100, 300});
        z.ask("station", 100, 113);
        e.is("three minutes behind 0", z.ask("overhead", 0, 1, 4), 3);
        e.is("nothing follows 0", z.ask("overhead", 0, 0, 4), NONE);
        e.promise(20, "by squares of both");
        Asker x = two(60, new int[] {100, 100, 300}, new int[] {110, 110, 310});
        x.ask("station", 150, 110);
        x.ask("station", 150, 111);
        e.is("20 and 20 ahead of 40 and 0", x.ask("overhead", 0, 0, 4), 20);
        e.is("like ones: 20, 21", x.ask("overhead", 0, 0, 5), 20);
    }
}
