/** Promises 30 to 33: sheets, their items, arcs that come from them. */
public final class SheetsTest {
    private static final Due due = new Due("SheetsTest");
    private static final int MIN = Integer.MIN_VALUE, MAX = Integer.MAX_VALUE;

    public static void main(String[] args) {
        sheet();
        drop();
        item();
        lowestBits();
        arcs();
        arcsRefused();
        arcsFull();
        due.end();
    }

    private static void sheet() {
        NorthCurtains x = new NorthCurtains();
        int[][] bad = {{4, 0, 1}, {-1, 0, 1}, {0, 3, 1}, {0, -1, 1}, {0, 0, 37}, {4, 0, -1}, {0, 3, -1}, {MAX, 0, 0},
            {0, MIN, 0}, {0, 0, MAX}};
        for (int[] b : bad) {
            due.is("bad sheet " + b[0] + " " + b[1] + " " + b[2], x.sheet(b[0], b[1], b[2]), -1);
        }
        due.is("size", x.sheet(0, 0, -1), -14);
        due.is("size", x.sheet(3, 2, MIN), -14);
        due.is("nothing yet", x.drop(0), -11);
        for (int s = 0; s < 4; s++) {
            due.is("sheet " + s, x.sheet(s, s % 3, 9 * s + 9), 9 * s + 9);
        }
        due.is("no items", x.sheet(1, 1, 0), 0);
        due.is("anew", x.sheet(0, 2, 5), 5);
        due.is("refused", x.sheet(0, 2, -1), -14);
        due.is("another lane", x.item(0, 0, 0, 0), -12);
        due.is("five", x.drop(0), 5);
        due.is("none", x.drop(1), 0);
        due.is("thirty-six", x.drop(3), 36);
    }

    private static void drop() {
        NorthCurtains x = new NorthCurtains();
        due.is("nothing", x.drop(0), -11);
        due.is("no sheet", x.drop(4), -1);
        due.is("no sheet", x.drop(-1), -1);
        x.sheet(0, 1, 7);
        x.sheet(1, 1, 8);
        due.is("seven", x.drop(0), 7);
        due.is("again", x.drop(0), -11);
        due.is("the other", x.drop(1), 8);
    }

    private static void item() {
        NorthCurtains x = new NorthCurtains();
        due.is("no sheet", x.item(4, 0, 0, 0), -1);
        due.is("no sheet", x.item(-1, 0, 0, 0), -1);
        due.is("no lane", x.item(0, 3, 0, 0), -1);
        due.is("no lane", x.item(0, -1, 0, 0), -1);
        due.is("nothing", x.item(0, 0, -1, 0), -11);
        for (int lane = 0; lane < 3; lane++) {
            x.sheet(0, lane, 3);
            due.is("first", x.item(0, lane, 0, MAX), 1);
            due.is("last", x.item(0, lane, 2, MIN), 1);
            due.is("behind", x.item(0, lane, 3, 0), -13);
            due.is("ahead", x.item(0, lane, -1, 0), -13);
            due.is("far behind", x.item(0, lane, MAX, 0), -13);
            due.is("far ahead", x.item(0, lane, MIN, 0), -13);
            due.is("cast", x.item(0, (lane + 1) % 3, 0, 0), -12);
            due.is("cast ahead of index", x.item(0, (lane + 2) % 3, 3, 0), -12);
        }
        x.sheet(0, 1, 0);
        due.is("no items", x.item(0, 1, 0, 0), -13);
    }

    private static void fill(NorthCurtains x, int sheet, int lane, int from, int... values) {
        for (int i = 0; i < values.length; i++) {
            due.is("item", x.item(sheet, lane, from + i, values[i]), 1);
        }
    }

    private static void lowestBits() {
        NorthCurtains x = new NorthCurtains();
        x.station(5, 5);
        x.sheet(0, 0, 6);
        fill(x, 0, 0, 0, 65536, 65536 * 7 + 3, MIN + 1439, -65536 + 359, 65536 + 88, 65536 * 2 + 4);
        due.is("an arc of shorts", x.arcs(0, 0, 0, 1), 1);
        int[] want = {1, 0, 3, 1439, 359, 88};
        for (int what = 0; what < 6; what++) {
            due.is("told " + what, x.told(0, what), want[what]);
        }
        due.is("colour", x.colour(0), 4);
        fill(x, 0, 0, 5, 65535);
        due.is("a short below 0", x.arcs(0, 0, 0, 1), -2);
        for (int lane = 1; lane < 3; lane++) {
            x.sheet(0, lane, 6);
            fill(x, 0, lane, 0, 0, 3, 4, 5, 6, 65536);
            due.is("no short", x.arcs(0, lane, 0, 1), -2);
            fill(x, 0, lane, 5, 4);
            due.is("as told", x.arcs(0, lane, 0, 1), lane + 1);
        }
    }

    private static void arcs() {
        for (int lane = 0; lane < 3; lane++) {
            NorthCurtains x = new NorthCurtains();
            x.station(5, 5);
            x.station(6, 6);
            x.sheet(2, lane, 14);
            fill(x, 2, lane, 2, 0, 399, 0, 359, 2, 0, 1, 0, 1439, 0, 88, 4);
            x.glow(0, 7, 7, 7, 7);
            due.is("none of none", x.arcs(2, lane, 14, 0), 1);
            due.is("two", x.arcs(2, lane, 2, 2), 3);
            int[][] want = {{1, 0, 399, 0, 359, 2}, {1, 1, 0, 1439, 0, 88}};
            for (int what = 0; what < 6; what++) {
                due.is("first " + what, x.told(1, what), want[0][what]);
                due.is("second " + what, x.told(2, what), want[1][what]);
            }
            due.is("colours", x.colour(1), 0);
            due.is("colours", x.colour(2), 4);
            due.is("nights", x.count(4), 3);
            due.is("the second", x.arcs(2, lane, 8, 1), 4);
            due.is("seen", x.seen(1, 0), 1);
        }
    }

    private static void arcsRefused() {
        NorthCurtains x = new NorthCurtains();
        x.station(5, 5);
        due.is("no sheet", x.arcs(4, 0, 0, 0), -1);
        due.is("no sheet", x.arcs(-1, 0, 0, 0), -1);
        due.is("no lane", x.arcs(0, 3, 0, 0), -1);
        due.is("no lane", x.arcs(0, -1, 0, 0), -1);
        due.is("n", x.arcs(0, 0, 0, 7), -1);
        due.is("n", x.arcs(0, 0, 0, -1), -1);
        due.is("n", x.arcs(0, 0, 0, MAX), -1);
        due.is("nothing", x.arcs(0, 0, -1, 6), -11);
        x.sheet(0, 1, 12);
        due.is("cast", x.arcs(0, 0, -1, 6), -12);
        due.is("index", x.arcs(0, 1, -1, 1), -13);
        due.is("index", x.arcs(0, 1, 7, 1), -13);
        due.is("index", x.arcs(0, 1, 1, 2), -13);
        due.is("index", x.arcs(0, 1, 0, 3), -13);
        due.is("index", x.arcs(0, 1, MAX, 6), -13);
        due.is("index", x.arcs(0, 1, MIN, 6), -13);
        due.is("index", x.arcs(0, 1, 13, 0), -13);
        due.is("not: height 0", x.arcs(0, 1, 0, 1), -2);
        fill(x, 0, 1, 0, 0, 1, 2, 3, 4, 1, 0, 1, 2, 3, 4, 1);
        int[][] wrong = {{6, 1}, {6, -1}, {7, 400}, {7, -1}, {8, 1440}, {8, -1}, {9, 360}, {9, -1}, {10, 1}, {10, 89},
            {11, 5}, {11, -1}};
        int[] right = {0, 1, 2, 3, 4, 1};
        for (int[] w : wrong) {
            x.item(0, 1, w[0], w[1]);
            due.is("not " + w[0] + " " + w[1], x.arcs(0, 1, 0, 2), -2);
            x.item(0, 1, w[0], right[w[0] - 6]);
        }
        due.is("none came", x.count(1), 0);
        due.is("no night", x.count(4), 0);
        due.is("two come", x.arcs(0, 1, 0, 2), 2);
    }

    private static void arcsFull() {
        NorthCurtains x = new NorthCurtains();
        x.station(5, 5);
        x.sheet(0, 2, 36);
        for (int i = 0; i < 6; i++) {
            fill(x, 0, 2, 6 * i, 0, i, 2, 3, 4, 1);
        }
        for (int i = 1; i <= 6; i++) {
            due.is("six more", x.arcs(0, 2, 0, 6), 6 * i);
        }
        due.is("no room for five", x.arcs(0, 2, 0, 5), -3);
        due.is("none came", x.count(1), 36);
        due.is("room for four", x.arcs(0, 2, 12, 4), 40);
        due.is("none", x.arcs(0, 2, 0, 0), 40);
        due.is("no room", x.arcs(0, 2, 0, 1), -3);
        x.item(0, 2, 5, 5);
        due.is("not ahead of full", x.arcs(0, 2, 0, 1), -2);
        due.is("of the last", x.told(39, 2), 5);
    }
}
