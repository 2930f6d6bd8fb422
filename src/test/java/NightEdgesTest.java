/** The edges of promises 21 to 29, sentence by sentence: what is taken last, what is refused first, what it leaves. */
public final class NightEdgesTest {
    private static final Edges e = new Edges("NightEdgesTest");
    private static final int BAD = Edges.BAD, NOT = Edges.NOT, FULL = Edges.FULL, NONE = Edges.NONE;
    private static final int MIN = Edges.MIN, MAX = Edges.MAX, BELOW = -10000;

    public static void main(String[] args) {
        promise21();
        promise21Hours();
        promise21Full();
        promise22();
        promise22Dark();
        promise23();
        promise23Nights();
        promise23None();
        promise24();
        promise24Rests();
        promise25();
        promise25Like();
        promise26();
        promise26Full();
        promise27();
        promise27Fits();
        promise27All();
        promise28();
        promise28Half();
        promise29();
        e.end();
    }

    private static void promise21() {
        e.on(States::busy);
        e.promise(21, "a STATION that is there");
        e.range(8, BAD, 0, 4, 0, "watch", 0, 50, 10, 2, 3);
        e.promise(21, "a NIGHT 0 .. 399");
        e.range(8, BAD, 0, 399, 1, "watch", 0, 50, 10, 2, 3);
        e.promise(21, "NOT: that STATION's NIGHT has one");
        e.refuses(NOT, "watch", 0, 7, 10, 4, 2);
        e.refuses(NOT, "watch", 1, 7, 0, 0, 0);
        e.refuses(NOT, "watch", 3, 9, 24, 24, 0);
        e.takes(10, "watch", 4, 7, 10, 0, 0);
        e.takes(10, "watch", 0, 8, 10, 0, 0);
        e.promise(21, "BAD ahead of NOT");
        e.refuses(BAD, "watch", 0, 7, 25, 0, 0);
        e.refuses(BAD, "watch", 0, 7, 10, 11, 0);
        e.refuses(BAD, "watch", 0, 7, 10, 4, 7);
        e.promise(21, "NOT: also one without an hour");
        Asker x = States.busy();
        e.is("none", x.ask("watch", 4, 399, 0, 0, 0), 0);
        e.is("again", x.ask("watch", 4, 399, 5, 0, 0), NOT);
        e.is("a refused one is none", x.ask("watch", 4, 398, 5, 6, 0), BAD);
        e.is("so it can come", x.ask("watch", 4, 398, 5, 5, 0), 0);
    }

    private static void promise21Hours() {
        e.on(States::busy);
        e.promise(21, "hours 0 .. 24");
        e.takes(0, "watch", 0, 50, 0, 0, 0);
        e.takes(24, "watch", 0, 50, 24, 0, 0);
        e.beyond(BAD, 0, 24, 2, "watch", 0, 50, 10, 0, 0);
        e.promise(21, "BAD: also clouded ones more than hours");
        e.takes(10, "watch", 0, 50, 10, 0, 0);
        e.takes(0, "watch", 0, 50, 10, 10, 0);
        e.beyond(BAD, 0, 10, 3, "watch", 0, 50, 10, 0, 0);
        e.takes(0, "watch", 0, 50, 24, 24, 0);
        e.refuses(BAD, "watch", 0, 50, 24, 25, 0);
        e.refuses(BAD, "watch", 0, 50, 0, 1, 0);
        e.promise(21, "BAD: also moonlit ones more than the rest");
        e.range(6, BAD, 0, 6, 4, "watch", 0, 50, 10, 4, 0);
        e.range(0, BAD, 0, 0, 4, "watch", 0, 50, 10, 10, 0);
        e.range(24, BAD, 0, 24, 4, "watch", 0, 50, 24, 0, 0);
        e.range(0, BAD, 0, 0, 4, "watch", 0, 50, 0, 0, 0);
        e.refuses(BAD, "watch", 0, 50, 10, -1, 11);
        e.refuses(BAD, "watch", 0, 50, 10, MAX, MIN);
    }

    private static void promise21Full() {
        e.promise(21, "FULL: 60");
        e.on(States::oneShort);
        e.takes(8, "watch", 0, 399, 10, 2, 0);
        e.on(States::full);
        e.refuses(FULL, "watch", 0, 399, 10, 2, 0);
        e.promise(21, "NOT ahead of FULL, BAD ahead of both");
        e.refuses(NOT, "watch", 0, 0, 10, 2, 0);
        e.refuses(NOT, "watch", 3, 59, 10, 2, 0);
        e.refuses(BAD, "watch", 8, 399, 10, 2, 0);
        e.refuses(BAD, "watch", 0, 0, 10, 11, 0);
    }

    private static void promise22() {
        e.on(States::busy);
        e.promise(22, "1 yes");
        e.takes(1, "seen", 0, 7);
        e.promise(22, "1 yes: GLOWS, too, and without a WATCH");
        e.takes(1, "seen", 0, 8);
        e.takes(1, "seen", 2, 7);
        e.takes(1, "seen", 2, 399);
        e.promise(22, "0 no, though there was a DARK hour");
        e.takes(0, "seen", 3, 9);
        e.promise(22, "NOT: no DARK hour");
        e.refuses(NOT, "seen", 2, 8);
        e.promise(22, "NONE: no WATCH, and nothing seen");
        e.refuses(NONE, "seen", 0, 0);
        e.refuses(NONE, "seen", 4, 399);
        e.refuses(NONE, "seen", 4, 9);
        e.promise(22, "BAD");
        e.beyond(BAD, 0, 4, 0, "seen", 0, 7);
        e.beyond(BAD, 0, 399, 1, "seen", 0, 7);
        e.on(States::full);
        e.takes(1, "seen", 7, 139);
        e.refuses(BAD, "seen", 8, 139);
    }

    private static void promise22Dark() {
        e.promise(22, "a DARK hour is neither clouded nor moonlit");
        int[][] watches = {{1, 0, 0, 0}, {0, 0, 0, NOT}, {24, 23, 0, 0}, {24, 24, 0, NOT}, {24, 0, 23, 0},
            {24, 0, 24, NOT}, {24, 12, 11, 0}, {24, 12, 12, NOT}, {1, 1, 0, NOT}, {1, 0, 1, NOT}, {2, 1, 0, 0}};
        for (int[] w : watches) {
            Asker x = new Asker();
            x.ask("station", 0, 0);
            x.ask("station", 0, 0);
            String what = w[0] + " hours, " + w[1] + " clouded, " + w[2] + " moonlit";
            e.is(what, x.ask("watch", 0, 399, w[0], w[1], w[2]), w[0] - w[1]);
            e.is(what + ", seen", x.ask("seen", 0, 399), w[3]);
            x.ask("glow", 1, 399, 0, 0, 2);
            e.is(what + ", seen by another", x.ask("seen", 0, 399), w[3]);
            x.ask("glow", 0, 398, 0, 0, 2);
            e.is(what + ", seen in another night", x.ask("seen", 0, 399), w[3]);
            x.ask("glow", 0, 399, 0, 0, 2);
            e.is(what + ", seen nonetheless", x.ask("seen", 0, 399), 1);
        }
    }

    private static void promise23() {
        e.on(States::busy);
        e.promise(23, "of a STATION, -1: of all");
        e.takes(3, "rate", -1, 0, 399, 0);
        e.takes(1, "rate", 0, 0, 399, 0);
        e.takes(0, "rate", 4, 0, 399, 0);
        e.beyond(BAD, -1, 4, 0, "rate", 0, 0, 399, 0);
        e.promise(23, "what 0 .. 3");
        int[] want = {3, 1, 36, 27};
        for (int what = 0; what < 4; what++) {
            e.takes(want[what], "rate", -1, 0, 399, what);
        }
        e.beyond(BAD, 0, 3, 3, "rate", -1, 0, 399, 0);
        e.on(States::full);
        e.takes(7, "rate", 7, 0, 399, 0);
        e.refuses(BAD, "rate", 8, 0, 399, 0);
    }

    private static void promise23Nights() {
        e.on(States::busy);
        e.promise(23, "NIGHTS from .. to, both counted");
        e.takes(3, "rate", -1, 7, 9, 0);
        e.takes(2, "rate", -1, 8, 9, 0);
        e.takes(2, "rate", -1, 7, 8, 0);
        e.takes(1, "rate", -1, 8, 8, 0);
        e.takes(6, "rate", -1, 7, 7, 2);
        e.takes(166, "rate", -1, 7, 7, 3);
        e.takes(0, "rate", -1, 0, 6, 0);
        e.takes(0, "rate", -1, 10, 399, 0);
        e.takes(0, "rate", -1, 0, 0, 0);
        e.takes(0, "rate", -1, 399, 399, 0);
        e.promise(23, "BAD: from 0 .. to");
        e.takes(3, "rate", -1, 0, 9, 0);
        e.takes(1, "rate", -1, 9, 9, 0);
        e.beyond(BAD, 0, 9, 1, "rate", -1, 0, 9, 0);
        e.promise(23, "BAD: to from .. 399");
        e.takes(1, "rate", -1, 7, 7, 0);
        e.takes(3, "rate", -1, 7, 399, 0);
        e.beyond(BAD, 7, 399, 2, "rate", -1, 7, 9, 0);
        e.refuses(BAD, "rate", -1, 400, 400, 0);
        e.refuses(BAD, "rate", -1, -1, -1, 0);
        e.refuses(BAD, "rate", -1, 399, 0, 0);
    }

    private static void rates(String what, Asker x, int... want) {
        for (int i = 0; i < 4; i++) {
            e.is(what + ", what " + i, x.ask("rate", -1, 0, 399, i), want[i]);
        }
    }

    private static void promise23None() {
        e.promise(23, "0, if there are no CLEAR hours");
        Asker x = new Asker();
        x.ask("station", 0, 0);
        rates("no watch", x, 0, 0, 0, 0);
        x.ask("watch", 0, 0, 24, 24, 0);
        x.ask("glow", 0, 0, 0, 0, 2);
        rates("seen, but no clear hour", x, 0, 0, 0, 0);
        e.promise(23, "one CLEAR hour is enough, moonlit or not");
        x.ask("watch", 0, 1, 24, 23, 1);
        rates("one clear hour", x, 1, 0, 1, 0);
        x.ask("glow", 0, 1, 0, 0, 2);
        rates("one clear hour, seen", x, 1, 1, 1, 1000);
        e.promise(23, "1000 times SEEN by CLEAR hours, cut");
        x.ask("watch", 0, 399, 2, 0, 0);
        rates("1000 by 3", x, 2, 1, 3, 333);
        x.ask("ray", 0, 399, 0, 0, 2, 0, 0);
        rates("2000 by 3", x, 2, 2, 3, 666);
        x.ask("ray", 0, 399, 5, 0, 2, 0, 0);
        rates("SEEN once, by however many sightings", x, 2, 2, 3, 666);
    }

    private static void promise24() {
        e.promise(24, "p 20 .. 40");
        e.on(States::fresh);
        e.range(0, BAD, 20, 40, 0, "round", 30);
        e.on(States::busy);
        e.takes(80, "round", 20);
        e.takes(160, "round", 40);
        e.beyond(BAD, 20, 40, 0, "round", 30);
        e.refuses(BAD, "round", 0);
        e.refuses(BAD, "round", -20);
    }

    private static Asker seen(int... nights) {
        Asker x = new Asker();
        x.ask("station", 0, 0);
        for (int night : nights) {
            x.ask("glow", 0, night, 0, 0, 2);
        }
        return x;
    }

    private static void promise24Rests() {
        e.promise(24, "of each rest by p, from 0 to the last");
        e.is("0 and 20 by 20", seen(0, 20).ask("round", 20), 80);
        e.is("0 and 19 by 20", seen(0, 19).ask("round", 20), 40);
        e.is("19 and 399 by 20", seen(19, 399).ask("round", 20), 80);
        e.is("20 and 399 by 20", seen(20, 399).ask("round", 20), 40);
        e.is("39 and 399 by 40", seen(39, 399).ask("round", 40), 160);
        e.is("0 and 399 by 40", seen(0, 399).ask("round", 40), 80);
        e.promise(24, "a NIGHT is SEEN once, by however many");
        Asker x = seen(0, 0, 20, 20, 20);
        x.ask("station", 5, 5);
        x.ask("arc", 1, 0, 0, 0, 2, 0);
        e.is("two nights", x.ask("round", 20), 80);
        e.promise(24, "as many NIGHTS as there can be");
        Asker y = new Asker();
        y.ask("station", 0, 0);
        for (int i = 0; i < 40; i++) {
            y.ask("glow", 0, i < 20 ? 20 * i : 20 * (i - 20) + 1, 0, 0, 2);
        }
        e.is("20 of two rests", y.ask("round", 20), 20 * 800);
        e.is("10 of four rests", y.ask("round", 40), 40 * 400);
        e.is("of like ones the least", y.ask("best"), 20);
    }

    private static void promise25() {
        e.promise(25, "NONE: fewer than three NIGHTS are SEEN");
        e.on(States::fresh);
        e.refuses(NONE, "best");
        e.on(() -> seen(7));
        e.refuses(NONE, "best");
        e.on(() -> seen(7, 27));
        e.refuses(NONE, "best");
        e.on(() -> seen(7, 27, 7, 27));
        e.refuses(NONE, "best");
        e.on(() -> seen(7, 27, 7, 28));
        e.takes(40, "best");
        e.promise(25, "watched, but not SEEN, is none");
        Asker x = seen(0, 1);
        x.ask("watch", 0, 2, 24, 0, 0);
        e.is("two of three", x.ask("best"), NONE);
        x.ask("ray", 0, 2, 0, 0, 2, 0, 0);
        e.is("three of three", x.ask("best"), 40);
    }

    private static void promise25Like() {
        e.promise(25, "the p of the greatest ROUND, 20 to 40");
        e.is("by 20, 180; by 40, 200", seen(0, 20, 40).ask("best"), 40);
        e.is("by 21, 189", seen(0, 21, 42).ask("best"), 21);
        e.is("by 39, 351", seen(0, 39, 78).ask("best"), 39);
        e.is("by 20, 320; by 40, 320", seen(0, 20, 40, 60).ask("best"), 20);
        e.is("by 19 it would be as much, and less than 20", seen(0, 19, 38, 57).ask("best"), 38);
        e.is("by 41 it would be more", seen(0, 41, 82).ask("best"), 40);
        e.promise(25, "of like ones the least");
        Asker x = seen(0, 20, 103, 123);
        e.is("by 20", x.ask("round", 20), 160);
        e.is("by 40", x.ask("round", 40), 160);
        e.is("best", x.ask("best"), 20);
    }

    private static void promise26() {
        e.on(States::busy);
        e.promise(26, "how many pairs; GLOWS and unlike NIGHTS, too");
        e.takes(4, "share", 1, 2);
        e.takes(4, "share", 4, 5);
        e.takes(4, "share", 6, 7);
        e.promise(26, "BAD: names nothing");
        e.beyond(BAD, 0, 7, 0, "share", 1, 2);
        e.beyond(BAD, 0, 7, 1, "share", 1, 2);
        e.promise(26, "BAD: also of one STATION");
        e.refuses(BAD, "share", 0, 5);
        e.refuses(BAD, "share", 6, 2);
        e.refuses(BAD, "share", 4, 7);
        for (int s = 0; s < 8; s++) {
            e.refuses(BAD, "share", s, s);
        }
        e.promise(26, "NOT: they are, whichever is told first");
        int[][] pairs = {{0, 1}, {2, 3}, {4, 0}};
        for (int[] p : pairs) {
            e.refuses(NOT, "share", p[0], p[1]);
            e.refuses(NOT, "share", p[1], p[0]);
        }
        e.promise(26, "two that are each SHARED with a third are not so themselves");
        e.takes(4, "share", 1, 4);
    }

    private static void promise26Full() {
        e.promise(26, "FULL: 20");
        e.on(States::oneShort);
        e.takes(20, "share", 19, 20);
        e.on(States::full);
        e.refuses(FULL, "share", 20, 21);
        e.refuses(FULL, "share", 0, 2);
        e.promise(26, "NOT ahead of FULL, BAD ahead of both");
        e.refuses(NOT, "share", 0, 1);
        e.refuses(NOT, "share", 20, 19);
        e.refuses(BAD, "share", 0, 8);
        e.refuses(BAD, "share", 39, 40);
    }

    private static void promise27() {
        e.on(States::busy);
        e.promise(27, "BAD less 10000");
        e.takes(5, "mended", 2, 0);
        e.takes(5, "mended", 2, 1);
        e.beyond(BAD + BELOW, 0, 4, 0, "mended", 2, 0);
        e.beyond(BAD + BELOW, 0, 1, 1, "mended", 2, 0);
        e.promise(27, "nothing SHARED: LOW, HIGH");
        Asker x = new Asker();
        x.ask("station", 0, 0);
        e.is("at first", x.ask("mended", 0, 0), 0);
        e.is("at first", x.ask("mended", 0, 1), 0);
        x.ask("clock", 0, -60, 60);
        e.is("least", x.ask("mended", 0, 0), -60);
        e.is("greatest", x.ask("mended", 0, 1), 60);
        e.promise(27, "NONE less that: nothing fits all");
        e.on(States::full);
        e.refuses(NONE + BELOW, "mended", 0, 0);
        e.refuses(NONE + BELOW, "mended", 0, 1);
        e.promise(27, "BAD ahead of NONE");
        e.refuses(BAD + BELOW, "mended", 0, 2);
        e.refuses(BAD + BELOW, "mended", 8, 0);
    }

    /** Two sightings, each by minute, LOW, HIGH; least above greatest stands for what does not fit. */
    private static void mends(int least, int greatest, int[] own, int[] other) {
        for (int turned = 0; turned < 2; turned++) {
            Asker x = new Asker();
            x.ask("station", 0, 0);
            x.ask("station", 0, 0);
            x.ask("clock", 0, own[1], own[2]);
            x.ask("clock", 1, other[1], other[2]);
            x.ask("glow", 0, 5, own[0], 0, 2);
            x.ask("glow", 1, 5, other[0], 0, 2);
            x.ask("share", turned, 1 - turned);
            String what = own[0] + " by " + own[1] + " to " + own[2] + ", " + other[0] + " by " + other[1] + " to "
                + other[2];
            e.is(what + ", least", x.ask("mended", 0, 0), least > greatest ? NONE + BELOW : least);
            e.is(what + ", greatest", x.ask("mended", 0, 1), least > greatest ? NONE + BELOW : greatest);
            e.is(what + ", the clock stays", x.ask("told", 0, 6), own[0] - own[2]);
            e.is(what + ", the clock stays", x.ask("told", 0, 7), own[0] - own[1]);
        }
    }

    private static void promise27Fits() {
        e.promise(27, "what fits LOW, HIGH and a SHARED pair");
        mends(3, 8, new int[] {100, -10, 12}, new int[] {95, -2, 3});
        mends(4, 8, new int[] {100, 4, 12}, new int[] {95, -2, 3});
        mends(3, 7, new int[] {100, -10, 7}, new int[] {95, -2, 3});
        mends(-8, -3, new int[] {95, -60, 60}, new int[] {100, -3, 2});
        e.promise(27, "just one fits, then nothing");
        mends(5, 5, new int[] {100, 0, 5}, new int[] {95, 0, 0});
        mends(1, 0, new int[] {100, 0, 4}, new int[] {95, 0, 0});
        mends(5, 5, new int[] {100, 5, 9}, new int[] {96, 0, 1});
        mends(1, 0, new int[] {100, 6, 9}, new int[] {96, 0, 1});
        e.promise(27, "at the ends of what a CLOCK can be");
        mends(60, 60, new int[] {220, -60, 60}, new int[] {100, -60, 60});
        mends(1, 0, new int[] {221, -60, 60}, new int[] {100, -60, 60});
        mends(-60, -60, new int[] {100, -60, 60}, new int[] {220, -60, 60});
        mends(1, 0, new int[] {100, -60, 60}, new int[] {221, -60, 60});
        mends(1, 0, new int[] {0, -60, 60}, new int[] {1439, -60, 60});
        mends(0, 0, new int[] {1439, 0, 0}, new int[] {1439, -60, 60});
    }

    private static void promise27All() {
        e.promise(27, "all SHARED pairs, as many as there can be");
        Asker x = new Asker();
        x.ask("station", 0, 0);
        x.ask("station", 0, 0);
        x.ask("clock", 0, -60, 60);
        x.ask("clock", 1, -20, 20);
        for (int i = 0; i < 20; i++) {
            int own = x.ask("glow", 0, i, 100 + i, 0, 2);
            int other = x.ask("glow", 1, i, 100, 0, 2);
            x.ask("share", own, other);
            e.is("least of " + i, x.ask("mended", 0, 0), i - 20);
            e.is("greatest of " + i, x.ask("mended", 0, 1), 20);
        }
        e.promise(27, "a pair of others does not count");
        x.ask("station", 0, 0);
        e.is("least of a third", x.ask("mended", 2, 0), 0);
        e.is("greatest of a third", x.ask("mended", 2, 1), 0);
        e.promise(27, "by the CLOCKS as they are now");
        x.ask("clock", 1, -20, -1);
        e.is("greatest", x.ask("mended", 0, 1), -1);
        e.is("least", x.ask("mended", 0, 0), -1);
        x.ask("clock", 1, -20, -2);
        e.is("nothing fits", x.ask("mended", 0, 0), NONE + BELOW);
        e.is("nothing fits", x.ask("mended", 0, 1), NONE + BELOW);
    }

    private static void promise28() {
        e.on(States::busy);
        e.promise(28, "BAD");
        e.beyond(BAD, 0, 4, 0, "moved", 0);
        e.promise(28, "NONE: fewer than two such pairs, those with GLOWS not counted");
        for (int station = 0; station < 5; station++) {
            e.refuses(NONE, "moved", station);
        }
        e.on(States::full);
        e.takes(1, "moved", 7);
        e.refuses(BAD, "moved", 8);
    }

    /** Of two stations so many shared pairs that cross, that do not, and that have a glow. */
    private static void moves(int want, int crossing, int apart, int glows) {
        Asker x = new Asker();
        x.ask("station", 100, 0);
        x.ask("station", 0, 100);
        x.ask("station", 0, 0);
        for (int i = 0; i < crossing + apart; i++) {
            int own = x.ask("arc", 0, i, 100, i < crossing ? 0 : 180, 20, 0);
            x.ask("share", x.ask("ray", 1, 399 - i, 700, 90, 20, 0, 0), own);
        }
        for (int i = 0; i < glows; i++) {
            int own = x.ask(i % 2 == 0 ? "glow" : "arc", i % 2 == 0 ? new int[] {0, i, 100, 180, 20}
                : new int[] {0, i, 100, 180, 20, 0});
            x.ask("share", own, x.ask("glow", 1, i, 100, 90, 20));
        }
        String what = crossing + " that cross, " + apart + " that do not, " + glows + " with glows";
        e.is(what, x.ask("moved", 0), want);
        e.is(what + ", of the other", x.ask("moved", 1), want);
        e.is(what + ", of a third", x.ask("moved", 2), NONE);
    }

    private static void promise28Half() {
        e.promise(28, "two at least");
        moves(NONE, 0, 0, 0);
        moves(NONE, 1, 0, 0);
        moves(NONE, 0, 1, 0);
        moves(NONE, 0, 0, 4);
        moves(NONE, 1, 0, 4);
        moves(NONE, 0, 1, 4);
        moves(0, 2, 0, 0);
        moves(1, 0, 2, 0);
        e.promise(28, "more than half do not CROSS");
        moves(0, 1, 1, 0);
        moves(0, 2, 1, 0);
        moves(1, 1, 2, 0);
        moves(0, 2, 2, 0);
        moves(1, 2, 3, 0);
        moves(0, 3, 2, 0);
        moves(0, 10, 10, 0);
        moves(1, 9, 11, 0);
        moves(0, 11, 9, 0);
        e.promise(28, "without GLOWS");
        moves(0, 1, 1, 5);
        moves(0, 2, 1, 6);
        moves(1, 1, 2, 6);
        moves(1, 0, 2, 6);
    }

    private static void promise29() {
        e.promise(29, "what 0 .. 4");
        e.on(States::busy);
        counts(5, 8, 4, 3, 4);
        e.beyond(BAD, 0, 4, 0, "count", 0);
        e.promise(29, "when all is there that can be");
        e.on(States::full);
        counts(8, 40, 60, 20, 29);
        e.beyond(BAD, 0, 4, 0, "count", 0);
        e.promise(29, "each NIGHT SEEN by any once");
        e.on(States::oneShort);
        counts(7, 39, 59, 19, 39);
    }

    private static void counts(int... want) {
        for (int what = 0; what < want.length; what++) {
            e.takes(want[what], "count", what);
        }
    }
}
