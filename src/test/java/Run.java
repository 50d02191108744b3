import java.lang.reflect.InvocationTargetException;
import java.lang.reflect.Method;
import java.util.Arrays;

/**
 * A run of calls on a new yard, told as text: "lamp(0, 0, 1); !lamp(0, 0, 1); count(3)". A call
 * behind "!" is one that is refused. A run stays within the 512 calls that the document gives a yard.
 */
final class Run {
    static final int TELLINGS = 3;
    private static final int MOST_CALLS = 512;

    private final ShadowWalls yard = new ShadowWalls();
    private int calls = 0;

    static Run after(String... before) {
        Run run = new Run();
        for (String part : before) {
            run.makeAll(part);
        }
        return run;
    }

    /** The answer as a text; an exception's exact class, so that a machine's own shows. */
    String answer(String call) {
        calls++;
        if (calls > MOST_CALLS) {
            throw new AssertionError("more than 512 calls on one yard");
        }
        try {
            return String.valueOf(methodOf(call).invoke(yard, argumentsOf(call)));
        } catch (InvocationTargetException refused) {
            return "throws." + refused.getCause().getClass().getSimpleName();
        } catch (ReflectiveOperationException unknown) {
            throw new AssertionError(call, unknown);
        }
    }

    /** One of the parts of all that the face tells of the state. */
    String tell(int part) {
        StringBuilder told = new StringBuilder();
        switch (part) {
            case 0 -> tellCells(told, 0, 1);
            case 1 -> tellCells(told, 2, 3);
            default -> {
                tellCells(told, 4, 4);
                tellTheRest(told);
            }
        }
        return told.toString();
    }

    private void makeAll(String part) {
        for (String call : part.split(";")) {
            String trimmed = call.trim();
            if (!trimmed.isEmpty()) {
                make(trimmed);
            }
        }
    }

    private void make(String call) {
        boolean isRefused = call.startsWith("!");
        String answer = answer(isRefused ? call.substring(1) : call);
        if (answer.startsWith("throws.") != isRefused) {
            throw new AssertionError("on the way there " + call + " answered " + answer);
        }
    }

    private static Method methodOf(String call) throws NoSuchMethodException {
        Class<?>[] types = new Class<?>[argumentsOf(call).length];
        Arrays.fill(types, int.class);
        return ShadowWalls.class.getMethod(call.substring(0, call.indexOf('(')), types);
    }

    private static Object[] argumentsOf(String call) {
        String inside = call.substring(call.indexOf('(') + 1, call.indexOf(')')).trim();
        if (inside.isEmpty()) {
            return new Object[0];
        }
        String[] texts = inside.split(",");
        Object[] numbers = new Object[texts.length];
        for (int i = 0; i < texts.length; i++) {
            numbers[i] = Integer.valueOf(texts[i].trim());
        }
        return numbers;
    }

    private void tell(StringBuilder told, String call) {
        told.append(call).append(' ').append(answer(call)).append('\n');
    }

    private void tellCells(StringBuilder told, int first, int last) {
        for (int cell = 0; cell < 144; cell++) {
            for (int what = first; what <= last; what++) {
                tell(told, "told(" + cell % 12 + ", " + cell / 12 + ", " + what + ")");
            }
        }
    }

    private void tellTheRest(StringBuilder told) {
        for (int what = 0; what < 8; what++) {
            tell(told, "count(" + what + ")");
        }
        for (int lamp = 0; lamp < 4; lamp++) {
            for (int what = 0; what < 4; what++) {
                tell(told, "about(" + lamp + ", " + what + ")");
            }
        }
        for (int watcher = 0; watcher < 6; watcher++) {
            for (int what = 0; what < 5; what++) {
                tell(told, "seat(" + watcher + ", " + what + ")");
            }
        }
        tell(told, "darkest()");
        tell(told, "mean()");
        tell(told, "digest()");
    }
}
