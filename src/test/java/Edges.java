import java.util.Arrays;

/** Asks calls at the edges of a promise, each of an object made anew; what is refused must have changed nothing. */
final class Edges {
    static final int BAD = -1, NOT = -2, FULL = -3, NONE = -4, NULL = -11, CAST = -12, INDEX = -13, SIZE = -14;
    static final int MIN = Integer.MIN_VALUE, MAX = Integer.MAX_VALUE;

    interface State {
        Asker make();
    }

    private final Due due;
    private String sentence = "";
    private State state = States::fresh;
    private final int[][] untouched = new int[Telling.GROUPS][];

    Edges(String test) {
        due = new Due(test);
    }

    /** What the next calls are about: a promise by its number, and what it says there. */
    void promise(int number, String says) {
        sentence = "promise " + number + ", " + says + ": ";
    }

    void on(State next) {
        state = next;
        for (int group = 0; group < Telling.GROUPS; group++) {
            untouched[group] = Telling.tell(state.make(), group);
        }
    }

    void takes(int want, String name, int... args) {
        is(Asker.call(name, args), state.make().ask(name, args), want);
    }

    void refuses(int want, String name, int... args) {
        for (int group = 0; group < Telling.GROUPS; group++) {
            Asker x = state.make();
            int got = x.ask(name, args);
            if (group == 0) {
                is(Asker.call(name, args), got, want);
            }
            due.holds(sentence + Asker.call(name, args) + " was refused, but changed something (group " + group + ")",
                Arrays.equals(Telling.tell(x, group), untouched[group]));
        }
    }

    /** One number of a call, the others as given: low and high are taken, what is beyond them is refused. */
    void range(int want, int refusal, int low, int high, int index, String name, int... args) {
        int[] taken = {low, high};
        for (int v : taken) {
            takes(want, name, with(args, index, v));
        }
        beyond(refusal, low, high, index, name, args);
    }

    void beyond(int refusal, int low, int high, int index, String name, int... args) {
        int[] refused = {low - 1, high + 1, MIN, MAX};
        for (int v : refused) {
            refuses(refusal, name, with(args, index, v));
        }
    }

    private static int[] with(int[] args, int index, int v) {
        int[] changed = args.clone();
        changed[index] = v;
        return changed;
    }

    /** An answer of a longer run of calls. */
    void is(String call, int got, int want) {
        due.is(sentence + call, got, want);
    }

    void end() {
        due.end();
    }
}
