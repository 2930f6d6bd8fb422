/** All promises: every two numbers of every call at once at or beyond an edge, answered by the class and by the Model. */
public final class SweepTest {
    private static final int[] NUMBERS = {Integer.MIN_VALUE, -100000, -61, -46, -2, -1, 0, 1, 2, 3, 4, 5, 6, 7, 8, 9, 11, 13,
        20, 36, 37, 39, 40, 41, 45, 60, 61, 88, 89, 90, 200, 201, 359, 360, 399, 400, 1439, 1440, 2000, 2001, 65536,
        Integer.MAX_VALUE};
    private static final int CALLS = 500;
    private static final Due due = new Due("SweepTest");

    private interface State {
        Asker make(Asker x);
    }

    private final State state;
    private Asker real;
    private Asker model;

    private SweepTest(State state) {
        this.state = state;
        anew();
    }

    public static void main(String[] args) {
        sweep(x -> x);
        sweep(States::busy);
        sweep(States::oneShort);
        sweep(States::full);
        due.end();
    }

    private void anew() {
        real = state.make(new Asker());
        model = state.make(new Asker(new Model()));
    }

    private static void sweep(State state) {
        SweepTest s = new SweepTest(state);
        s.call("station", 1000, 1000);
        s.call("clock", 2, 0, 0);
        s.call("glow", 2, 50, 600, 100, 40);
        s.call("arc", 2, 50, 600, 100, 40, 2);
        s.call("ray", 2, 50, 600, 100, 40, 2, 0);
        s.call("told", 4, 7);
        s.call("colour", 3);
        s.call("lean", 1);
        s.call("table", 2, 45);
        s.call("thick", 30);
        s.call("meets", 0, 1);
        s.call("cross", 0, 1, 2);
        s.call("curtains", 7);
        s.call("curtain", 7, 0, 2);
        s.call("curtain", 11, 0, 2);
        s.call("curtainOf", 2);
        s.call("speed", 30);
        s.call("ways", 7);
        s.call("next", 7, 0);
        s.call("next", 11, 0);
        s.call("overhead", 7, 0, 0);
        s.call("overhead", 11, 0, 0);
        s.call("watch", 0, 50, 10, 2, 3);
        s.call("watch", 0, 7, 10, 2, 3);
        s.call("seen", 0, 7);
        s.call("rate", -1, 7, 9, 3);
        s.call("round", 30);
        s.call("best");
        s.call("share", 1, 2);
        s.call("mended", 2, 0);
        s.call("moved", 0);
        s.call("count", 0);
        s.call("sheet", 0, 1, 5);
        s.call("drop", 0);
        for (int sheet = 0; sheet < 3; sheet++) {
            s.call("item", sheet, sheet, 0, 7);
            s.call("arcs", sheet, sheet, 0, 1);
        }
    }

    private void call(String name, int... args) {
        ask(name, args);
        for (int i = 0; i < args.length; i++) {
            for (int v : NUMBERS) {
                int[] changed = args.clone();
                changed[i] = v;
                ask(name, changed);
                second(name, i, changed);
            }
        }
    }

    /** One number is changed already, now each behind it. */
    private void second(String name, int first, int... args) {
        for (int j = first + 1; j < args.length; j++) {
            for (int w : NUMBERS) {
                int[] changed = args.clone();
                changed[j] = w;
                ask(name, changed);
            }
        }
    }

    /** What was taken may have changed something, so the next call is of an object made anew. */
    private void ask(String name, int... args) {
        int got = real.ask(name, args);
        due.is(Asker.call(name, args), got, model.ask(name, args));
        if (got >= 0 || real.calls() >= CALLS) {
            anew();
        }
    }
}
