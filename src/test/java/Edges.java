import java.util.List;
import java.util.TreeSet;

/** What calls answer at the ends of what their numbers may be, and beyond them; and that refusals change nothing. */
final class Edges {
    static final int BAD = -1, FULL = -2, FINDING = -3, STATE = -4;
    static final int NO_FINDING = 0, NOTHING = 1, BEYOND = 2, UNLIKE = 3, NOUGHT = 4, SIZE = 5;

    /** Makes the object that a call is tried on; each time the same. */
    interface State {
        TeaRace made();
    }

    interface Call {
        long on(TeaRace x);
    }

    interface NumberCall {
        long on(TeaRace x, int number);
    }

    private Edges() {
    }

    /** A number of a call is BAD beyond its ends, and at both ends it isn't. */
    static void ofNumber(String call, State state, int least, int most, NumberCall c) {
        for (int wrong : beyond(least, most)) {
            bad(call + " of " + wrong, state, x -> c.on(x, wrong));
        }
        taken(call + " of " + least, state, x -> c.on(x, least));
        taken(call + " of " + most, state, x -> c.on(x, most));
    }

    /** The next ones, the furthest ones, and those that are in again if they are cut to a byte or to 16 bits. */
    static TreeSet<Integer> beyond(int least, int most) {
        TreeSet<Integer> wrong = new TreeSet<>();
        long[] tried = {least - 1L, most + 1L, Integer.MIN_VALUE, Integer.MAX_VALUE, least - 256L, least + 256L,
            most - 65536L, least + 65536L, least - 1000000000L, most + 1000000000L};
        for (long number : tried) {
            if ((number < least || number > most) && number == (int) number) {
                wrong.add((int) number);
            }
        }
        return wrong;
    }

    /** The call answers something else than a refusal. */
    static void taken(String call, State state, Call c) {
        long answer = c.on(state.made());
        Check.holds(call + " is taken, though it answered " + answer, answer >= 0 || answer == -9);
    }

    static void bad(String call, State state, Call c) {
        refused(call, state, c, BAD, NO_FINDING);
    }

    static void finds(String call, State state, Call c, int finding) {
        refused(call, state, c, FINDING, finding);
    }

    /** The call is refused; its finding, if it has one, is told and counted, and nothing else has changed. */
    static void refused(String call, State state, Call c, int answer, int finding) {
        TeaRace x = state.made();
        TeaRace untouched = state.made();
        Check.due(call, c.on(x), answer);
        Check.due(call + ", then finding()", x.finding(), finding == NO_FINDING ? untouched.finding() : finding);
        for (int f = 1; f <= 5; f++) {
            Check.due(call + ", then findings(" + f + ")", x.findings(f), untouched.findings(f) + (f == finding ? 1 : 0));
        }
        List<Long> told = Portrait.of(x);
        Check.holds(call + " changes nothing", told.equals(Portrait.of(untouched)));
    }
}
