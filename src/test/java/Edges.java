import java.util.Arrays;
import java.util.function.Supplier;

/** The value at an edge, the one ahead of it and the one behind it; and values that are far out, or wrap around. */
final class Edges {
    /** A call with one value that is looked at. */
    interface Call {
        int of(Taped tower, int value);
    }

    private Edges() {
    }

    /** Each of the values is answered on a tower of its own. */
    static void answers(String what, Supplier<Taped> made, Call call, int... values) {
        for (int value : values) {
            String got = "answered";
            try {
                call.of(made.get(), value);
            } catch (RuntimeException thrown) {
                got = "threw " + thrown;
            }
            Suite.is(what + " of " + value, "answered", got);
        }
    }

    /** Each of the values is refused, and changes nothing. */
    static void refuses(String what, Supplier<Taped> made, Class<? extends RuntimeException> want, Call call, int... values) {
        Taped tower = made.get();
        for (int value : values) {
            Suite.refuses(tower, what + " of " + value, want, () -> call.of(tower, value));
        }
    }

    /** From the least value to the most one all is answered, and nothing beside them. */
    static void range(String what, Supplier<Taped> made, int least, int most, Class<? extends RuntimeException> want, Call call) {
        int[] within = {least, least + 1, most - 1, most};
        answers(what, made, call, Arrays.stream(within).filter(value -> value >= least && value <= most).distinct().toArray());
        refuses(what, made, want, call, beside(least, most));
    }

    /** One below and one above, far below and far above, and those that are within by their low bits alone. */
    static int[] beside(int least, int most) {
        int[] all = {least - 1, most + 1, -1, least - 32, least + 32, least - 64, least + 64, least + 256, least - 256,
            least + 65536, least - 65536, 1 << 30, -(1 << 30), (1 << 31) + least, (1 << 31) + most,
            Integer.MIN_VALUE, Integer.MIN_VALUE + 1, Integer.MAX_VALUE - 1, Integer.MAX_VALUE};
        return Arrays.stream(all).filter(value -> value < least || value > most).distinct().toArray();
    }

    /** The same, as text, of all values one behind the other. */
    static String each(Call call, Taped tower, int from, int to) {
        StringBuilder text = new StringBuilder();
        for (int value = from; value <= to; value++) {
            text.append(' ').append(call.of(tower, value));
        }
        return text.toString();
    }
}
