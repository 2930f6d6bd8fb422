/** Promises 21 to 29: watches, nights seen, rates, rounds, shared sightings, clocks mended, stations moved. */
public final class NightsTest {
    private static final Due due = new Due("NightsTest");
    private static final int MIN = Integer.MIN_VALUE, MAX = Integer.MAX_VALUE;

    public static void main(String[] args) {
        watch();
        seen();
        rate();
        round();
        best();
        share();
        mended();
        mendedByClocks();
        moved();
        count();
        due.end();
    }

    private static NorthCurtains stations(int n) {
        NorthCurtains x = new NorthCurtains();
        for (int i = 0; i < n; i++) {
            x.station(100 * i, 0);
        }
        return x;
    }

    private static void watch() {
        NorthCurtains x = stations(2);
        int[][] bad = {{2, 0, 5, 1, 1}, {-1, 0, 5, 1, 1}, {0, -1, 5, 1, 1}, {0, 400, 5, 1, 1}, {0, 0, -1, 0, 0},
            {0, 0, 25, 0, 0}, {0, 0, 5, 6, 0}, {0, 0, 5, -1, 0}, {0, 0, 5, 3, 3}, {0, 0, 5, 3, -1},
            {0, 0, 5, MIN, 0}, {0, 0, 5, 0, MAX}, {MAX, MAX, MAX, MAX, MAX}};
        for (int[] b : bad) {
            due.is("bad watch", x.watch(b[0], b[1], b[2], b[3], b[4]), -1);
        }
        due.is("none came", x.count(2), 0);
        due.is("all kinds of hours", x.watch(0, 0, 24, 20, 4), 4);
        due.is("none", x.watch(0, 399, 0, 0, 0), 0);
        due.is("clouded", x.watch(1, 0, 24, 24, 0), 0);
        due.is("again", x.watch(0, 0, 1, 0, 0), -2);
        due.is("bad again", x.watch(0, 0, 1, 2, 0), -1);
        for (int i = 3; i < 60; i++) {
            due.is("watch " + i, x.watch(i % 2, i, 9, 2, 3), 7);
        }
        due.is("full", x.watch(0, 100, 9, 2, 3), -3);
        due.is("full, again", x.watch(0, 399, 9, 2, 3), -2);
        due.is("full, bad", x.watch(0, 100, 9, 10, 3), -1);
        due.is("sixty", x.count(2), 60);
    }

    private static void seen() {
        NorthCurtains x = stations(2);
        x.watch(0, 1, 5, 2, 2);
        x.watch(0, 2, 5, 2, 3);
        x.watch(0, 3, 5, 5, 0);
        due.is("a dark hour", x.seen(0, 1), 0);
        due.is("moonlit", x.seen(0, 2), -2);
        due.is("clouded", x.seen(0, 3), -2);
        due.is("no watch", x.seen(0, 4), -4);
        due.is("another's", x.seen(1, 1), -4);
        for (int night = 1; night <= 4; night++) {
            x.glow(0, night, 0, 0, 5);
            due.is("seen", x.seen(0, night), 1);
            due.is("not by the other", x.seen(1, night), -4);
        }
        x.ray(1, 1, 0, 0, 5, 0, 0);
        due.is("a ray", x.seen(1, 1), 1);
        int[] bad = {-1, 2, MIN, MAX};
        for (int b : bad) {
            due.is("station " + b, x.seen(b, 1), -1);
        }
        due.is("night 400", x.seen(0, 400), -1);
        due.is("night -1", x.seen(0, -1), -1);
    }

    private static void rate() {
        NorthCurtains x = stations(3);
        x.watch(0, 10, 10, 3, 7);
        x.watch(0, 20, 5, 5, 0);
        x.watch(0, 30, 4, 0, 0);
        x.watch(1, 10, 8, 2, 0);
        x.arc(0, 10, 0, 0, 5, 0);
        x.arc(0, 10, 9, 0, 5, 0);
        x.glow(0, 20, 0, 0, 5);
        x.glow(1, 30, 0, 0, 5);
        rates(x, -1, 0, 399, new int[] {3, 1, 17, 58});
        rates(x, 0, 0, 399, new int[] {2, 1, 11, 90});
        rates(x, 1, 0, 399, new int[] {1, 0, 6, 0});
        rates(x, 2, 0, 399, new int[] {0, 0, 0, 0});
        rates(x, -1, 10, 10, new int[] {2, 1, 13, 76});
        rates(x, -1, 11, 30, new int[] {1, 0, 4, 0});
        rates(x, -1, 11, 29, new int[] {0, 0, 0, 0});
        x.watch(2, 50, 9, 8, 1);
        x.glow(2, 50, 0, 0, 5);
        rates(x, 2, 50, 50, new int[] {1, 1, 1, 1000});
        int[][] bad = {{-2, 0, 9, 0}, {3, 0, 9, 0}, {0, -1, 9, 0}, {0, 0, 400, 0}, {0, 9, 8, 0}, {0, 0, 9, -1},
            {0, 0, 9, 4}, {MIN, 0, 9, 0}, {-1, MIN, MAX, 0}, {0, 400, 400, 0}};
        for (int[] b : bad) {
            due.is("bad rate", x.rate(b[0], b[1], b[2], b[3]), -1);
        }
    }

    private static void rates(NorthCurtains x, int station, int from, int to, int[] want) {
        for (int what = 0; what < 4; what++) {
            due.is("rate " + station + " " + from + " " + to + " " + what, x.rate(station, from, to, what), want[what]);
        }
    }

    private static void round() {
        NorthCurtains x = stations(2);
        int[] nights = {0, 20, 40, 399, 20};
        for (int night : nights) {
            x.glow(night % 2, night, 0, 0, 5);
        }
        x.arc(1, 20, 5, 5, 5, 0);
        due.is("20: rests 0 0 0 19", x.round(20), 20 * 10);
        due.is("40: rests 0 20 0 39", x.round(40), 40 * 6);
        due.is("27: rests 0 20 13 21", x.round(27), 27 * 4);
        int[] bad = {19, 41, 0, -20, MIN, MAX};
        for (int b : bad) {
            due.is("round " + b, x.round(b), -1);
        }
    }

    private static void best() {
        NorthCurtains x = stations(2);
        x.glow(0, 0, 0, 0, 5);
        x.glow(1, 0, 0, 0, 5);
        x.glow(0, 27, 0, 0, 5);
        due.is("two nights", x.best(), -4);
        x.glow(0, 81, 0, 0, 5);
        due.is("three nights", x.best(), 27);
        for (int p = 20; p <= 40; p++) {
            NorthCurtains w = stations(1);
            for (int i = 0; i < 6; i++) {
                w.glow(0, 7 + p * i, 0, 0, 5);
            }
            due.is("rounds of " + p, w.best(), p);
        }
        NorthCurtains v = stations(1);
        NorthCurtains u = stations(1);
        for (int i = 0; i < 6; i++) {
            v.glow(0, 19 * i, 0, 0, 5);
            u.glow(0, 41 * i, 0, 0, 5);
        }
        due.is("19 apart are rounds of 38 at most", v.best(), 38);
        due.is("41 apart are no rounds", u.best(), 40);
        NorthCurtains y = stations(1);
        y.glow(0, 0, 0, 0, 5);
        y.glow(0, 1, 0, 0, 5);
        y.glow(0, 2, 0, 0, 5);
        due.is("nothing comes again: the longest", y.best(), 40);
        NorthCurtains z = stations(1);
        for (int night : new int[] {0, 20, 61, 62, 63, 64, 65, 66, 67, 68}) {
            z.glow(0, night, 0, 0, 5);
        }
        due.is("a round", z.best(), mostOf(z));
        like();
    }

    private static int mostOf(NorthCurtains x) {
        int best = 20;
        for (int p = 20; p <= 40; p++) {
            best = x.round(p) > x.round(best) ? p : best;
        }
        return best;
    }

    private static void like() {
        NorthCurtains x = stations(1);
        // 24 and 36: 36 (n + 2 a) = 24 (n + 2 b) with n nights, a and b pairs: n 8, a 0, b 2.
        for (int night : new int[] {0, 24, 1, 25, 10, 11, 12, 13}) {
            x.glow(0, night, 0, 0, 5);
        }
        due.is("round 24", x.round(24), 24 * 12);
        due.is("round 36", x.round(36), 36 * 8);
        due.is("like rounds elsewhere", x.best(), mostOf(x));
        NorthCurtains y = stations(1);
        // 20 (n + 2 a) = 40 (n + 2 b): n 4, a 2, b 0; all others have four rests.
        for (int night : new int[] {0, 20, 103, 123}) {
            y.glow(0, night, 0, 0, 5);
        }
        due.is("round 20", y.round(20), 160);
        due.is("round 40", y.round(40), 160);
        due.is("of like ones the least", y.best(), 20);
    }

    private static void share() {
        NorthCurtains x = stations(3);
        for (int i = 0; i < 30; i++) {
            x.glow(i % 3, i, i, 0, 5);
        }
        due.is("one station", x.share(0, 3), -1);
        due.is("one", x.share(0, 0), -1);
        due.is("names nothing", x.share(0, 30), -1);
        due.is("names nothing", x.share(-1, 1), -1);
        due.is("names nothing", x.share(MAX, MIN), -1);
        due.is("first", x.share(0, 1), 1);
        due.is("again", x.share(0, 1), -2);
        due.is("again, turned", x.share(1, 0), -2);
        for (int i = 1; i < 20; i++) {
            due.is("pair", x.share(i + 1, i), i + 1);
        }
        due.is("full", x.share(20, 21), -3);
        due.is("full, again", x.share(19, 20), -2);
        due.is("full, bad", x.share(0, 3), -1);
        due.is("twenty", x.count(3), 20);
    }

    private static void mended() {
        NorthCurtains x = stations(3);
        x.clock(0, -10, 12);
        due.is("nothing shared", x.mended(0, 0), -10);
        due.is("nothing shared", x.mended(0, 1), 12);
        x.glow(0, 5, 100, 0, 5);
        x.arc(1, 5, 95, 0, 5, 0);
        x.glow(2, 5, 104, 0, 5);
        x.clock(1, -2, 3);
        x.clock(2, 5, 10);
        x.share(1, 0);
        due.is("one pair", x.mended(0, 0), 3);
        due.is("one pair", x.mended(0, 1), 8);
        due.is("of the other", x.mended(1, 0), -2);
        due.is("of the other", x.mended(1, 1), 3);
        due.is("of a third", x.mended(2, 1), 10);
        x.share(0, 2);
        due.is("two pairs", x.mended(0, 0), 3);
        due.is("two pairs", x.mended(0, 1), 6);
        x.clock(2, -3, 6);
        due.is("two pairs", x.mended(0, 1), -10004);
        due.is("two pairs", x.mended(0, 0), -10004);
        x.clock(2, -3, 7);
        due.is("just one", x.mended(0, 0), 3);
        due.is("just one", x.mended(0, 1), 3);
        int[] bad = {-1, 3, MIN, MAX};
        for (int b : bad) {
            due.is("station " + b, x.mended(b, 0), -10001);
        }
        due.is("which 2", x.mended(0, 2), -10001);
        due.is("which -1", x.mended(0, -1), -10001);
        due.is("as told still", x.told(0, 6), 88);
    }

    /** Clocks are the ones told, not the mended ones of others. */
    private static void mendedByClocks() {
        NorthCurtains x = stations(3);
        x.clock(0, -60, 60);
        x.clock(1, -60, 60);
        x.glow(0, 0, 100, 0, 5);
        x.glow(1, 0, 100, 0, 5);
        x.glow(2, 0, 90, 0, 5);
        x.share(0, 1);
        x.share(1, 2);
        due.is("1 by 2", x.mended(1, 0), 10);
        due.is("1 by 2", x.mended(1, 1), 10);
        due.is("0 by 1", x.mended(0, 0), -60);
        due.is("0 by 1", x.mended(0, 1), 60);
    }

    private static void moved() {
        NorthCurtains x = new NorthCurtains();
        x.station(0, 0);
        x.station(500, 0);
        x.station(0, 500);
        x.station(1000, 0);
        x.arc(0, 1, 120, 45, 8, 0);
        x.arc(1, 2, 700, 0, 11, 0);
        x.ray(2, 3, 120, 90, 11, 0, 0);
        x.arc(3, 1, 120, 45, 8, 0);
        x.glow(3, 1, 120, 45, 8);
        due.is("none", x.moved(0), -4);
        x.share(0, 1);
        x.share(4, 0);
        due.is("one, and one with a glow", x.moved(0), -4);
        x.share(2, 0);
        due.is("two that cross", x.moved(0), 0);
        x.share(3, 0);
        due.is("one of three", x.moved(0), 0);
        due.is("but one", x.moved(3), -4);
        x.share(1, 3);
        due.is("all of two", x.moved(3), 1);
        due.is("half of two", x.moved(1), 0);
        x.thick(0);
        due.is("two of two", x.moved(1), 1);
        due.is("by thickness all of three", x.moved(0), 1);
        due.is("station 4", x.moved(4), -1);
        due.is("station -1", x.moved(-1), -1);
    }

    private static void count() {
        NorthCurtains x = stations(3);
        x.glow(0, 0, 0, 0, 5);
        x.arc(0, 9, 0, 0, 5, 0);
        x.ray(1, 9, 0, 0, 5, 0, 0);
        x.ray(1, 8, 0, 0, 5, 0, 0);
        x.watch(0, 50, 5, 5, 0);
        x.watch(0, 51, 5, 5, 0);
        x.share(0, 2);
        int[] want = {3, 4, 2, 1, 3};
        for (int what = 0; what < 5; what++) {
            due.is("count " + what, x.count(what), want[what]);
        }
        due.is("count 5", x.count(5), -1);
        due.is("count -1", x.count(-1), -1);
        due.is("count max", x.count(MAX), -1);
    }
}
