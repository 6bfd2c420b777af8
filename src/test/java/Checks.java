import java.util.Objects;
import java.util.function.Function;
import java.util.function.Supplier;

/** Counts the answers that are not due, and ends the machine with 1 if there was one. */
final class Checks {
    interface Call {
        Object answer();
    }

    static final Class<IndexOutOfBoundsException> NO_SUCH = IndexOutOfBoundsException.class;
    static final Class<IllegalArgumentException> ARGUMENT = IllegalArgumentException.class;
    static final Class<IllegalStateException> STATE = IllegalStateException.class;
    static final Class<ArithmeticException> ARITHMETIC = ArithmeticException.class;
    static final int LOW = Integer.MIN_VALUE;
    static final int HIGH = Integer.MAX_VALUE;

    private static final int MOST_SAVED = 4;

    private int asked;
    private int wrong;
    private String where = "";

    /** Tells every wrong answer from here on with these words before it. */
    void begin(String place) {
        where = place + ": ";
    }

    int asked() {
        return asked;
    }

    /** A long is due as a long, whatever whole number the call answers; doubles must be equal exactly. */
    void due(String what, Object due, Call call) {
        asked++;
        Object got = answerOf(call);
        if (!Objects.equals(got, widened(due))) {
            wrong++;
            System.out.println(where + what + " answered " + got + ", due is " + due);
        }
    }

    /** The exception must be of the very class: a subclass would be one that the machine threw. Nothing may change. */
    void dueThrow(String what, Class<? extends RuntimeException> due, RangingNet net, Call call) {
        long before = net.digest();
        due(what, due, call);
        due(what + ", digest after the exception", before, net::digest);
    }

    /** The call on a new object of the recipe throws this, and leaves it as one that was not called. */
    void refused(String what, Class<? extends RuntimeException> due, Supplier<RangingNet> recipe,
            Function<RangingNet, Object> call) {
        RangingNet net = recipe.get();
        due(what, due, () -> call.apply(net));
        dueSame(what, net, recipe.get());
    }

    /** The call on a new object of the recipe answers, and does not throw. */
    void taken(String what, Supplier<RangingNet> recipe, Function<RangingNet, Object> call) {
        RangingNet net = recipe.get();
        due(what + " is taken", true, () -> answerOf(() -> call.apply(net)) instanceof Number);
    }

    /** The call on a new object of the recipe answers this, and leaves it as one that was not called. */
    void look(String what, Object due, Supplier<RangingNet> recipe, Function<RangingNet, Object> call) {
        RangingNet net = recipe.get();
        due(what, due, () -> call.apply(net));
        dueSame(what, net, recipe.get());
    }

    /** The call on a new object of the recipe answers, and leaves it as one that was not called. */
    void changesNothing(String what, Supplier<RangingNet> recipe, Function<RangingNet, Object> call) {
        RangingNet net = recipe.get();
        due(what + " is taken", true, () -> answerOf(() -> call.apply(net)) instanceof Number);
        dueSame(what, net, recipe.get());
    }

    /** The call saves the state from before it, and nothing else: one undo brings that back. */
    void undoable(String what, Supplier<RangingNet> recipe, Function<RangingNet, Object> call) {
        RangingNet net = recipe.get();
        RangingNet twin = recipe.get();
        long saved = savedIn(recipe.get());
        long left = Math.min(saved, MOST_SAVED - 1);
        due(what + " is taken", true, () -> answerOf(() -> call.apply(net)) instanceof Number);
        due(what + ", undo", left, net::undo);
        // The number of saved states comes last into the digest, so that it can be taken out of it again.
        for (long i = 0; i < left; i++) {
            due(what + ", state undone " + i, twin.digest() - saved, () -> net.digest() - left);
            due(what + ", undo again", left - 1 - i, net::undo);
            twin.undo();
        }
        due(what + ", last state undone", twin.digest() - saved, () -> net.digest() - left);
        due(what + ", no state is left", STATE, net::undo);
    }

    void finish(String name) {
        System.out.println(name + ": " + asked + " answers, " + wrong + " wrong");
        if (wrong != 0) {
            System.exit(1);
        }
    }

    /** Both objects have the same state and the same saved states; what is saved in them is undone. */
    private void dueSame(String what, RangingNet net, RangingNet twin) {
        due(what + ", digest behind it", twin.digest(), net::digest);
        for (int i = 0; i <= MOST_SAVED; i++) {
            due(what + ", undo behind it", answerOf(twin::undo), net::undo);
            due(what + ", digest of a saved state behind it", twin.digest(), net::digest);
        }
    }

    private static long savedIn(RangingNet net) {
        Object left = answerOf(net::undo);
        return left instanceof Number ? ((Number) left).longValue() + 1 : 0;
    }

    private static Object answerOf(Call call) {
        try {
            return widened(call.answer());
        } catch (RuntimeException thrown) {
            boolean byMachine = "/ by zero".equals(thrown.getMessage());
            return byMachine ? "a division by zero" : thrown.getClass();
        }
    }

    private static Object widened(Object value) {
        return value instanceof Integer ? (Object) ((Integer) value).longValue() : value;
    }
}
