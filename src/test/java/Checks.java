import java.util.Objects;

/** Counts the answers that are not due, and ends the machine with 1 if there was one. */
final class Checks {
    interface Call {
        Object answer();
    }

    private int asked;
    private int wrong;

    /** A long is due as a long, whatever whole number the call answers; doubles must be equal exactly. */
    void due(String what, Object due, Call call) {
        asked++;
        Object got;
        try {
            got = widened(call.answer());
        } catch (RuntimeException thrown) {
            boolean byMachine = "/ by zero".equals(thrown.getMessage());
            got = byMachine ? "a division by zero" : thrown.getClass();
        }
        if (!Objects.equals(got, widened(due))) {
            wrong++;
            System.out.println(what + " answered " + got + ", due is " + due);
        }
    }

    /** The exception must be of the very class: a subclass would be one that the machine threw. Nothing may change. */
    void dueThrow(String what, Class<? extends RuntimeException> due, RangingNet net, Call call) {
        long before = net.digest();
        due(what, due, call);
        due(what + ", digest after the exception", before, net::digest);
    }

    void finish(String name) {
        System.out.println(name + ": " + asked + " answers, " + wrong + " wrong");
        if (wrong != 0) {
            System.exit(1);
        }
    }

    private static Object widened(Object value) {
        return value instanceof Integer ? (Object) ((Integer) value).longValue() : value;
    }
}
