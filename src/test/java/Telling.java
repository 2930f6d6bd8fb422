/** All that later calls tell of an object, in groups that each stay within the calls that an object may be asked. */
final class Telling {
    static final int GROUPS = 7;
    private static final int MOST_TOLD = 330;

    private final Asker x;
    private final int[] told = new int[MOST_TOLD];
    private int count;

    private Telling(Asker x) {
        this.x = x;
    }

    /** The answers of one group; the calls may change the object, so each group wants one of its own. */
    static int[] tell(Asker x, int group) {
        Telling t = new Telling(x);
        switch (group) {
            case 0: t.sightings(); break;
            case 1: t.coloursAndClocks(); break;
            case 2: t.watches(); break;
            case 3: t.shared(); break;
            case 4: t.curtains(); break;
            case 5: t.sheets(); break;
            default: t.room(); break;
        }
        return t.told;
    }

    private void ask(String name, int... args) {
        told[count] = x.ask(name, args);
        count++;
    }

    private void counts() {
        for (int what = 0; what < 5; what++) {
            ask("count", what);
        }
    }

    private void sightings() {
        counts();
        for (int s = 0; s < 40; s++) {
            for (int what = 0; what < 8; what++) {
                ask("told", s, what);
            }
        }
    }

    private void coloursAndClocks() {
        for (int s = 0; s < 40; s++) {
            ask("colour", s);
            ask("lean", s);
        }
        for (int station = 0; station < 8; station++) {
            ask("mended", station, 0);
            ask("mended", station, 1);
            ask("moved", station);
        }
        for (int p = 20; p <= 40; p++) {
            ask("round", p);
        }
        ask("best");
        ask("thick", 33);
        ask("speed", 33);
    }

    private void watches() {
        for (int station = 0; station < 8; station++) {
            for (int night : new int[] {0, 7, 8, 9, 50, 111, 399}) {
                ask("seen", station, night);
            }
        }
        for (int station = -1; station < 8; station++) {
            for (int what = 0; what < 4; what++) {
                ask("rate", station, 0, 399, what);
            }
        }
        for (int night = 0; night < 60; night++) {
            ask("rate", -1, night, night, 2);
        }
        for (int station = 0; station < 8; station++) {
            for (int night : new int[] {7, 8, 9, 50, 399}) {
                ask("watch", station, night, 1, 0, 0);
            }
        }
        counts();
    }

    private void shared() {
        for (int a = 0; a < 12; a++) {
            for (int b = a + 1; b < 12; b++) {
                ask("share", a, b);
            }
        }
        counts();
    }

    private void curtains() {
        for (int night : new int[] {7, 9, 11, 112}) {
            ask("curtains", night);
            ask("ways", night);
            for (int k = 0; k < 4; k++) {
                for (int what = 0; what < 6; what++) {
                    ask("curtain", night, k, what);
                }
                ask("next", night, k);
                ask("overhead", night, k, 0);
                ask("overhead", night, k, 4);
            }
        }
        for (int s = 0; s < 40; s++) {
            ask("curtainOf", s);
        }
        for (int a = 0; a < 4; a++) {
            for (int b = 0; b < 4; b++) {
                ask("meets", a, b);
                ask("cross", a, b, 2);
            }
        }
    }

    /** What the items are is seen by the arcs that come from them. */
    private void sheets() {
        for (int sheet = 0; sheet < 4; sheet++) {
            for (int lane = 0; lane < 3; lane++) {
                for (int from : new int[] {0, 1, 6, 30}) {
                    ask("arcs", sheet, lane, from, 1);
                }
            }
        }
        for (int s = 8; s < 14; s++) {
            for (int what = 1; what < 6; what++) {
                ask("told", s, what);
            }
            ask("colour", s);
        }
        for (int sheet = 0; sheet < 4; sheet++) {
            ask("drop", sheet);
            ask("drop", sheet);
        }
    }

    private void room() {
        for (int i = 0; i < 9; i++) {
            ask("station", 5, 5);
        }
        for (int i = 0; i < 41; i++) {
            ask("glow", 0, 1, 1, 1, 9);
        }
        for (int i = 0; i < 61; i++) {
            ask("watch", 0, 200 + i, 1, 0, 0);
        }
        counts();
    }
}
