import java.util.concurrent.Callable;

/** Counts the answers that are due and those that are not. */
final class Due {
    static final String INDEX = "throws.IndexOutOfBoundsException";
    static final String ARGUMENT = "throws.IllegalArgumentException";
    static final String STATE = "throws.IllegalStateException";

    private final String name;
    private int right;
    private int wrong;

    Due(String name) {
        this.name = name;
    }

    /** The answer of a call as a text; an exception's exact class, so that a machine's own shows. */
    static String answerOf(Callable<?> call) {
        try {
            return String.valueOf(call.call());
        } catch (AssertionError broken) {
            return "a broken test: " + broken.getMessage();
        } catch (Throwable thrown) {
            return "throws." + thrown.getClass().getSimpleName();
        }
    }

    void is(String what, Object want, Callable<?> call) {
        String got = answerOf(call);
        if (got.equals(String.valueOf(want))) {
            right++;
        } else {
            wrong++;
            if (wrong <= 40) {
                System.out.println(name + ": " + what + " answered " + got + ", due is " + want);
            }
        }
    }

    /** As is(), and the call is one that must leave the yard as it was. */
    void isRefused(String what, Object want, ShadowWalls yard, Callable<?> call) {
        long before = yard.digest();
        is(what, want, call);
        is(what + " changed nothing", before, yard::digest);
    }

    void end() {
        System.out.println(name + ": " + right + " right, " + wrong + " wrong");
        if (wrong != 0 || right == 0) {
            System.exit(1);
        }
    }
}
