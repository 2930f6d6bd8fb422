/** The edges of promises 30 to 33, sentence by sentence: what is taken last, what is refused first, what it leaves. */
public final class SheetEdgesTest {
    private static final Edges e = new Edges("SheetEdgesTest");
    private static final int BAD = Edges.BAD, NOT = Edges.NOT, FULL = Edges.FULL, NULL = Edges.NULL, CAST = Edges.CAST;
    private static final int INDEX = Edges.INDEX, SIZE = Edges.SIZE, MIN = Edges.MIN, MAX = Edges.MAX;
    private static final int[] ARC = {1, 20, 5, 10, 30, 1};

    public static void main(String[] args) {
        promise30();
        promise30New();
        promise31();
        promise31Again();
        promise32();
        promise32Refused();
        promise32LowestBits();
        promise33();
        promise33Refused();
        promise33Index();
        promise33Not();
        promise33NotInOrder();
        promise33Full();
        promise33Come();
        e.end();
    }

    private static void promise30() {
        e.on(States::busy);
        e.promise(30, "SHEETS 0 .. 3");
        e.range(5, BAD, 0, 3, 0, "sheet", 0, 1, 5);
        e.promise(30, "LANES 0 .. 2");
        e.range(5, BAD, 0, 2, 1, "sheet", 0, 1, 5);
        e.promise(30, "0 to 36 items; BAD: also n above 36");
        e.takes(0, "sheet", 0, 1, 0);
        e.takes(36, "sheet", 0, 1, 36);
        e.refuses(BAD, "sheet", 0, 1, 37);
        e.refuses(BAD, "sheet", 0, 1, MAX);
        e.promise(30, "SIZE: n below 0");
        for (int sheet = 0; sheet < 4; sheet++) {
            e.refuses(SIZE, "sheet", sheet, 1, -1);
            e.refuses(SIZE, "sheet", sheet, 2, MIN);
        }
        e.promise(30, "BAD ahead of SIZE");
        e.refuses(BAD, "sheet", 4, 0, -1);
        e.refuses(BAD, "sheet", -1, 0, -1);
        e.refuses(BAD, "sheet", 0, 3, -1);
        e.refuses(BAD, "sheet", 0, -1, MIN);
    }

    private static void promise30New() {
        e.promise(30, "a new row: nothing of the old one is left");
        for (int lane = 0; lane < 3; lane++) {
            Asker x = row(lane, 12);
            States.fill(x, 0, lane, 0, ARC);
            e.is("an arc", x.ask("arcs", 0, lane, 0, 1), 1);
            e.is("anew, of as many items", x.ask("sheet", 0, lane, 12), 12);
            e.is("no arc", x.ask("arcs", 0, lane, 0, 1), NOT);
            States.fill(x, 0, lane, 0, ARC);
            e.is("anew, of fewer", x.ask("sheet", 0, lane, 6), 6);
            e.is("height 0", x.ask("arcs", 0, lane, 0, 1), NOT);
            e.is("no seventh item", x.ask("item", 0, lane, 6, 0), INDEX);
            x.ask("item", 0, lane, 4, 2);
            e.is("all others 0", x.ask("arcs", 0, lane, 0, 1), 2);
            int[] want = {1, 0, 0, 0, 0, 2};
            for (int what = 0; what < 6; what++) {
                e.is("told " + what, x.ask("told", 1, what), want[what]);
            }
            e.is("colour", x.ask("colour", 1), 0);
            e.is("of another lane", x.ask("sheet", 0, (lane + 1) % 3, 6), 6);
            e.is("no longer of this", x.ask("item", 0, lane, 0, 0), CAST);
            e.is("the other sheets hold nothing", x.ask("drop", 1), NULL);
        }
    }

    private static void promise31() {
        e.on(States::busy);
        e.promise(31, "how many items it had");
        e.takes(13, "drop", 0);
        e.takes(6, "drop", 1);
        e.promise(31, "a row without items is not nothing");
        e.takes(0, "drop", 2);
        e.promise(31, "NULL");
        e.refuses(NULL, "drop", 3);
        e.promise(31, "BAD");
        e.beyond(BAD, 0, 3, 0, "drop", 0);
        e.promise(31, "the most items, the last SHEET");
        e.on(States::full);
        e.takes(36, "drop", 0);
        e.takes(0, "drop", 3);
    }

    private static void promise31Again() {
        e.promise(31, "a SHEET holds nothing");
        Asker x = States.busy();
        x.ask("drop", 0);
        e.is("dropped again", x.ask("drop", 0), NULL);
        e.is("an item", x.ask("item", 0, 0, 0, 0), NULL);
        e.is("arcs", x.ask("arcs", 0, 0, 0, 1), NULL);
        e.is("no arcs", x.ask("arcs", 0, 0, 0, 0), NULL);
        e.is("the next still holds its row", x.ask("arcs", 1, 1, 0, 1), 9);
        e.is("a new row", x.ask("sheet", 0, 2, 36), 36);
        e.is("it is dropped", x.ask("drop", 0), 36);
    }

    private static void promise32() {
        e.on(States::busy);
        e.promise(32, "item i, from the first to the last");
        e.takes(1, "item", 0, 0, 0, 7);
        e.takes(1, "item", 0, 0, 12, 7);
        e.takes(1, "item", 1, 1, 0, MIN);
        e.takes(1, "item", 1, 1, 5, MAX);
        e.promise(32, "INDEX");
        e.beyond(INDEX, 0, 12, 2, "item", 0, 0, 0, 7);
        e.beyond(INDEX, 0, 5, 2, "item", 1, 1, 0, 7);
        e.promise(32, "INDEX: a row without items");
        e.beyond(INDEX, 0, -1, 2, "item", 2, 2, 0, 7);
        e.promise(32, "the most items");
        Asker x = row(2, 36);
        e.is("the last", x.ask("item", 0, 2, 35, 7), 1);
        e.is("behind the last", x.ask("item", 0, 2, 36, 7), INDEX);
    }

    private static void promise32Refused() {
        e.on(States::busy);
        e.promise(32, "BAD");
        e.beyond(BAD, 0, 3, 0, "item", 0, 0, 0, 7);
        e.beyond(BAD, 0, 2, 1, "item", 0, 0, 0, 7);
        e.promise(32, "NULL");
        for (int lane = 0; lane < 3; lane++) {
            e.refuses(NULL, "item", 3, lane, 0, 7);
        }
        e.promise(32, "CAST");
        for (int sheet = 0; sheet < 3; sheet++) {
            for (int lane = 0; lane < 3; lane++) {
                if (lane != sheet) {
                    e.refuses(CAST, "item", sheet, lane, 0, 7);
                }
            }
        }
        e.promise(32, "BAD, NULL, CAST, INDEX in this order");
        e.refuses(BAD, "item", 3, 3, -1, 7);
        e.refuses(BAD, "item", 4, 0, -1, 7);
        e.refuses(BAD, "item", 0, -1, 13, 7);
        e.refuses(NULL, "item", 3, 0, -1, 7);
        e.refuses(CAST, "item", 0, 1, 13, 7);
        e.refuses(CAST, "item", 1, 2, -1, 7);
        e.refuses(CAST, "item", 2, 0, 0, 7);
    }

    private static Asker row(int lane, int n) {
        Asker x = new Asker();
        x.ask("station", 5, 5);
        x.ask("station", 6, 6);
        x.ask("sheet", 0, lane, n);
        return x;
    }

    /** What item 2, a minute, becomes by v; below 0 is what is no minute. */
    private static void minute(int want, int lane, int v) {
        Asker x = row(lane, 6);
        States.fill(x, 0, lane, 0, ARC);
        e.is("item " + v, x.ask("item", 0, lane, 2, v), 1);
        e.is("an arc by " + v + ", lane " + lane, x.ask("arcs", 0, lane, 0, 1), want < 0 ? NOT : 1);
        e.is("minute by " + v + ", lane " + lane, x.ask("told", 0, 3), want < 0 ? -1001 : want);
    }

    private static void promise32LowestBits() {
        e.promise(32, "its lowest bits: of shorts 16");
        int[][] shorts = {{0, 0}, {1439, 1439}, {1440, -1}, {-1, -1}, {32767, -1}, {32768, -1}, {65535, -1}, {65536, 0},
            {65537, 1}, {66975, 1439}, {66976, -1}, {-65536, 0}, {-65535, 1}, {-65537, -1}, {MIN, 0}, {MAX, -1},
            {MIN + 5, 5}, {5 << 16, 0}};
        for (int[] s : shorts) {
            minute(s[1], 0, s[0]);
        }
        e.promise(32, "its lowest bits: of ints and longs all");
        for (int lane = 1; lane < 3; lane++) {
            int[][] whole = {{0, 0}, {1439, 1439}, {1440, -1}, {-1, -1}, {65536, -1}, {65537, -1}, {-65536, -1}, {MIN, -1},
                {MAX, -1}};
            for (int[] w : whole) {
                minute(w[1], lane, w[0]);
            }
        }
        e.promise(32, "no other item becomes it");
        Asker x = row(0, 12);
        States.fill(x, 0, 0, 0, ARC);
        States.fill(x, 0, 0, 6, ARC);
        x.ask("item", 0, 0, 6, 9);
        e.is("the first arc", x.ask("arcs", 0, 0, 0, 1), 1);
        e.is("the second arc", x.ask("arcs", 0, 0, 6, 1), NOT);
    }

    /** A row of 36 items, all six arcs as told. */
    private static Asker six(int lane) {
        Asker x = row(lane, 36);
        for (int i = 0; i < 6; i++) {
            States.fill(x, 0, lane, 6 * i, i % 2, 10 + i, 20 + i, 30 + i, 40 + i, i % 5);
        }
        return x;
    }

    private static void promise33() {
        for (int lane = 0; lane < 3; lane++) {
            int of = lane;
            e.on(() -> six(of));
            e.promise(33, "n ARCS, 0 .. 6");
            for (int n = 0; n <= 6; n++) {
                e.takes(n, "arcs", 0, lane, 0, n);
            }
            e.beyond(BAD, 0, 6, 3, "arcs", 0, lane, 0, 0);
        }
        e.on(States::busy);
        e.promise(33, "how many SIGHTINGS there are, also if none comes");
        e.takes(8, "arcs", 0, 0, 0, 0);
        e.takes(9, "arcs", 0, 0, 0, 1);
        e.takes(10, "arcs", 0, 0, 0, 2);
        e.promise(33, "none from a row without items");
        e.takes(8, "arcs", 2, 2, 0, 0);
        e.refuses(INDEX, "arcs", 2, 2, 0, 1);
    }

    private static void promise33Refused() {
        e.on(States::busy);
        e.promise(33, "BAD");
        e.beyond(BAD, 0, 3, 0, "arcs", 0, 0, 0, 1);
        e.beyond(BAD, 0, 2, 1, "arcs", 0, 0, 0, 1);
        e.beyond(BAD, 0, 6, 3, "arcs", 0, 0, 0, 1);
        e.promise(33, "NULL");
        for (int lane = 0; lane < 3; lane++) {
            e.refuses(NULL, "arcs", 3, lane, 0, 1);
            e.refuses(NULL, "arcs", 3, lane, 0, 0);
        }
        e.promise(33, "CAST");
        for (int sheet = 0; sheet < 3; sheet++) {
            for (int lane = 0; lane < 3; lane++) {
                if (lane != sheet) {
                    e.refuses(CAST, "arcs", sheet, lane, 0, 1);
                    e.refuses(CAST, "arcs", sheet, lane, 0, 0);
                }
            }
        }
        e.promise(33, "BAD, NULL, CAST, INDEX in this order");
        e.refuses(BAD, "arcs", 3, 0, -1, 7);
        e.refuses(BAD, "arcs", 3, 3, -1, 1);
        e.refuses(BAD, "arcs", 0, 1, 13, -1);
        e.refuses(NULL, "arcs", 3, 1, -1, 6);
        e.refuses(NULL, "arcs", 3, 1, MAX, 6);
        e.refuses(CAST, "arcs", 0, 1, -1, 6);
        e.refuses(CAST, "arcs", 2, 0, 0, 1);
    }

    private static void promise33Index() {
        e.promise(33, "INDEX: from the first item, to the last");
        for (int lane = 0; lane < 3; lane++) {
            int of = lane;
            e.on(() -> six(of));
            e.takes(6, "arcs", 0, lane, 0, 6);
            for (int n = 1; n <= 6; n++) {
                e.takes(n, "arcs", 0, lane, 36 - 6 * n, n);
                e.beyond(INDEX, 0, 36 - 6 * n, 2, "arcs", 0, lane, 0, n);
                e.refuses(INDEX, "arcs", 0, lane, MAX - 6 * n + 1, n);
                e.refuses(INDEX, "arcs", 0, lane, -6 * n, n);
            }
            e.promise(33, "INDEX: from behind the last item none can come");
            e.takes(0, "arcs", 0, lane, 36, 0);
            e.refuses(INDEX, "arcs", 0, lane, 36, 1);
        }
        e.on(States::busy);
        e.promise(33, "INDEX ahead of NOT");
        e.refuses(NOT, "arcs", 0, 0, 7, 1);
        e.refuses(INDEX, "arcs", 0, 0, 8, 1);
        e.refuses(NOT, "arcs", 0, 0, 1, 2);
        e.refuses(INDEX, "arcs", 0, 0, 2, 2);
        e.refuses(INDEX, "arcs", 0, 0, 0, 3);
        e.promise(33, "INDEX ahead of FULL");
        e.on(States::full);
        e.refuses(INDEX, "arcs", 1, 1, 1, 1);
        e.refuses(INDEX, "arcs", 1, 1, 0, 2);
        e.refuses(INDEX, "arcs", 3, 0, 0, 1);
    }

    private static Asker arcWith(int lane, int index, int v) {
        Asker x = six(lane);
        x.ask("item", 0, lane, index, v);
        return x;
    }

    private static void promise33Not() {
        e.promise(33, "NOT: one is not as told");
        int[][] ends = {{0, 1}, {0, 399}, {0, 1439}, {0, 359}, {2, 88}, {0, 4}};
        for (int lane = 0; lane < 3; lane++) {
            int of = lane;
            for (int i = 0; i < 6; i++) {
                for (int arc = 0; arc < 6; arc += 5) {
                    int index = 6 * arc + i;
                    int low = ends[i][0];
                    int high = ends[i][1];
                    e.on(() -> arcWith(of, index, low));
                    e.takes(6, "arcs", 0, lane, 0, 6);
                    e.on(() -> arcWith(of, index, high));
                    e.takes(6, "arcs", 0, lane, 0, 6);
                    e.on(() -> arcWith(of, index, low - 1));
                    e.refuses(NOT, "arcs", 0, lane, 0, 6);
                    e.on(() -> arcWith(of, index, high + 1));
                    e.refuses(NOT, "arcs", 0, lane, 0, 6);
                    e.takes(arc == 0 ? NOT : 5, "arcs", 0, lane, 0, 5);
                    e.takes(arc == 0 ? 5 : NOT, "arcs", 0, lane, 6, 5);
                }
            }
        }
    }

    private static void promise33NotInOrder() {
        e.promise(33, "NOT: what is not among those asked for does not count");
        Asker x = six(1);
        x.ask("item", 0, 1, 6, 2);
        e.is("the first", x.ask("arcs", 0, 1, 0, 1), 1);
        e.is("the first two", x.ask("arcs", 0, 1, 0, 2), NOT);
        e.is("none came", x.ask("count", 1), 1);
        e.is("from the third", x.ask("arcs", 0, 1, 12, 4), 5);
        e.promise(33, "NOT: a STATION that comes later is as told then");
        x.ask("station", 7, 7);
        e.is("the first two", x.ask("arcs", 0, 1, 0, 2), 7);
    }

    private static void promise33Full() {
        e.promise(33, "FULL: 40; the fortieth comes");
        e.on(States::oneShort);
        e.takes(39, "arcs", 0, 1, 0, 0);
        e.takes(40, "arcs", 0, 1, 0, 1);
        e.takes(40, "arcs", 0, 1, 6, 1);
        e.promise(33, "FULL: none comes, if not all can");
        e.refuses(FULL, "arcs", 0, 1, 0, 2);
        e.promise(33, "FULL: none can come, but none may");
        e.on(States::full);
        e.takes(40, "arcs", 0, 0, 30, 0);
        e.refuses(FULL, "arcs", 0, 0, 30, 1);
        e.refuses(FULL, "arcs", 1, 1, 0, 1);
        e.refuses(FULL, "arcs", 2, 2, 1, 1);
        e.promise(33, "NOT ahead of FULL");
        e.refuses(NOT, "arcs", 0, 0, 29, 1);
        e.refuses(NOT, "arcs", 0, 0, 0, 6);
        e.refuses(NOT, "arcs", 2, 2, 0, 1);
    }

    private static void promise33Come() {
        e.promise(33, "STATION, NIGHT, minute, bearing, height, COLOUR of each, in their order");
        for (int lane = 0; lane < 3; lane++) {
            Asker x = six(lane);
            e.is("six", x.ask("arcs", 0, lane, 0, 6), 6);
            for (int i = 0; i < 6; i++) {
                int[] want = {1, i % 2, 10 + i, 20 + i, 30 + i, 40 + i};
                for (int what = 0; what < 6; what++) {
                    e.is("arc " + i + ", told " + what, x.ask("told", i, what), want[what]);
                }
                e.is("arc " + i + ", colour", x.ask("colour", i), i % 5);
                e.is("arc " + i + ", seen", x.ask("seen", i % 2, 10 + i), 1);
            }
            e.is("nights", x.ask("count", 4), 6);
            e.is("again", x.ask("arcs", 0, lane, 12, 2), 8);
            e.is("the third again", x.ask("told", 6, 2), 12);
            e.is("the row stays", x.ask("drop", 0), 36);
        }
    }
}
