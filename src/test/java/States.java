/** What the edges are asked of: an object with nothing, with a little of all, with all that it can hold. */
final class States {
    private States() {
    }

    static Asker fresh() {
        return new Asker();
    }

    /**
     * Stations 0, 1, 2 look north along x 100, 200, 300, 3 and 4 east along y 100, 200. Night 7 has curtain 0 (0 and 1,
     * minute 100, at 100, 100) followed by curtain 1 (2 and 3, minute 110, at 200, 200), and a glow (4).
     */
    static Asker busy() {
        return busy(new Asker());
    }

    static Asker busy(Asker x) {
        int[][] places = {{100, 0}, {200, 0}, {300, 0}, {0, 100}, {0, 200}};
        for (int[] p : places) {
            x.ask("station", p);
        }
        x.ask("thick", 200);
        x.ask("speed", 30);
        x.ask("clock", 2, -5, 7);
        x.ask("arc", 0, 7, 100, 0, 20, 1);
        x.ask("ray", 3, 7, 100, 90, 20, 2, -10);
        x.ask("arc", 1, 7, 110, 0, 20, 0);
        x.ask("arc", 4, 7, 110, 90, 20, 4);
        x.ask("glow", 2, 7, 105, 5, 30);
        x.ask("glow", 0, 8, 0, 0, 2);
        x.ask("arc", 1, 9, 1439, 359, 88, 0);
        x.ask("ray", 2, 399, 5, 180, 45, 3, 45);
        x.ask("watch", 0, 7, 10, 4, 2);
        x.ask("watch", 1, 7, 5, 5, 0);
        x.ask("watch", 2, 8, 6, 0, 6);
        x.ask("watch", 3, 9, 24, 0, 0);
        x.ask("share", 0, 1);
        x.ask("share", 2, 3);
        x.ask("share", 4, 0);
        x.ask("sheet", 0, 0, 13);
        x.ask("sheet", 1, 1, 6);
        x.ask("sheet", 2, 2, 0);
        fill(x, 0, 0, 0, 0, 20, 5, 10, 30, 1, 4, 21, 6, 11, 31, 2);
        fill(x, 1, 1, 0, 1, 22, 7, 12, 32, 3);
        return x;
    }

    /** 8 stations, 40 sightings (night 11 has eleven arcs and a glow, number 11), 60 watches, 20 shared pairs. */
    static Asker full() {
        return full(new Asker());
    }

    static Asker full(Asker x) {
        for (int i = 0; i < 8; i++) {
            x.ask("station", 100 * i, 50 * i);
        }
        x.ask("clock", 3, -4, 6);
        sightings(x, 40);
        for (int i = 0; i < 60; i++) {
            x.ask("watch", i % 8, i, 10, i % 10, 0);
        }
        for (int i = 0; i < 20; i++) {
            x.ask("share", i, i + 1);
        }
        x.ask("sheet", 0, 0, 36);
        x.ask("sheet", 1, 1, 6);
        x.ask("sheet", 2, 2, 7);
        x.ask("sheet", 3, 0, 0);
        fill(x, 0, 0, 30, 0, 20, 5, 10, 30, 1);
        fill(x, 1, 1, 0, 1, 22, 7, 12, 32, 3);
        fill(x, 2, 2, 1, 2, 23, 8, 13, 33, 0);
        return x;
    }

    /** As full, but with one station, one sighting, one watch, one shared pair less. */
    static Asker oneShort() {
        return oneShort(new Asker());
    }

    static Asker oneShort(Asker x) {
        for (int i = 0; i < 7; i++) {
            x.ask("station", 100 * i, 50 * i);
        }
        for (int i = 0; i < 39; i++) {
            x.ask("glow", i % 7, i, 600, 90, 20);
        }
        for (int i = 0; i < 59; i++) {
            x.ask("watch", i % 7, i, 10, i % 10, 0);
        }
        for (int i = 0; i < 19; i++) {
            x.ask("share", i, i + 1);
        }
        x.ask("sheet", 0, 1, 12);
        fill(x, 0, 1, 0, 0, 20, 5, 10, 30, 1, 6, 21, 6, 11, 31, 2);
        return x;
    }

    static void fill(Asker x, int sheet, int lane, int from, int... values) {
        for (int i = 0; i < values.length; i++) {
            x.ask("item", sheet, lane, from + i, values[i]);
        }
    }

    private static void sightings(Asker x, int n) {
        for (int i = 0; i < n; i++) {
            if (i < 11) {
                x.ask("arc", i % 8, 11, 100 * i, 10 * i, 20, i % 5);
            } else if (i == 11) {
                x.ask("glow", 0, 11, 600, 90, 20);
            } else if (i % 2 == 0) {
                x.ask("ray", i % 8, 100 + i, 600, 90, 20, 3, i);
            } else {
                x.ask("glow", i % 8, 100 + i, 600, 90, 20);
            }
        }
    }
}
