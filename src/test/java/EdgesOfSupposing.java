import java.math.BigInteger;

/** The boundary cases of promises 16 to 20: what would be. */
final class EdgesOfSupposing {
    private static final String INDEX = Due.INDEX;
    private static final String ARGUMENT = Due.ARGUMENT;

    private final Edges edges;

    EdgesOfSupposing(Edges edges) {
        this.edges = edges;
    }

    void run() {
        would();
        wouldRefused();
        adviseAtSides();
        adviseAmongLamps();
        adviseRefused();
        darkest();
        mean();
        digest();
    }

    private void would() {
        edges.of("Promise 16", "Returns by how many cells more would be lit (less than 0, if fewer),"
            + " if it was of this kind (nothing is changed).");
        for (int kind = 0; kind <= 3; kind++) {
            String end = ", " + kind + ")";
            edges.changesNothing(0, "would(5, 5" + end);
            edges.changesNothing(0, "would(0, 0" + end, "lamp(0, 0, 2)");
            edges.changesNothing(0, "would(11, 11" + end, "lamp(0, 0, 2)");
            edges.changesNothing(0, "would(2, 0" + end, "lamp(0, 0, 2)");
            edges.changesNothing(kind == 1 || kind == 2 ? -1 : 0, "would(1, 0" + end, "lamp(0, 0, 2)");
            edges.changesNothing(kind == 1 || kind == 2 ? 0 : 1, "would(1, 0" + end, "lamp(0, 0, 2); set(1, 0, 1)");
            edges.changesNothing(kind == 1 || kind == 2 ? 0 : 1, "would(1, 0" + end, "lamp(0, 0, 2); set(1, 0, 2)");
            edges.changesNothing(kind == 1 || kind == 2 ? -1 : 0, "would(1, 0" + end, "lamp(0, 0, 2); set(1, 0, 3)");
            edges.changesNothing(kind == 1 || kind == 2 ? 0 : 2, "would(1, 0" + end, "lamp(0, 0, 2); set(1, 0, 1); set(0, 1, 2)");
            edges.changesNothing(0, "would(1, 0" + end, "lamp(0, 0, 2); lamp(2, 1, 1)");
        }
        String[][] corners = {{"0, 0", "1, 0"}, {"11, 0", "10, 0"}, {"0, 11", "1, 11"}, {"11, 11", "10, 11"}};
        for (String[] corner : corners) {
            edges.changesNothing(0, "would(5, 5, 1)", "lamp(" + corner[0] + ", 2)");
            edges.changesNothing(-1, "would(" + corner[1] + ", 1)", "lamp(" + corner[0] + ", 2)");
        }
        edges.changesNothing(-2, "would(1, 0, 1)", "lamp(0, 0, 2); set(0, 1, 2)");
        edges.changesNothing(-2, "would(10, 11, 2)", "lamp(11, 11, 2); set(11, 10, 1)");
        edges.changesNothing(-11, "would(1, 0, 1)", "lamp(0, 0, 12);", Edges.row(1, 1));
        edges.changesNothing(11, "would(1, 0, 0)", "lamp(0, 0, 12);", Edges.row(1, 1), "set(1, 0, 2)");
    }

    private void wouldRefused() {
        edges.of("Promise 16", "Throws `IndexOutOfBoundsException` if x or y is not 0 to 11");
        for (String before : new String[] {"", Edges.FURNISHED, Edges.FULL}) {
            edges.changeNothing(INDEX, "would(#, 0, 1)", Edges.beyond(0, 11), before);
            edges.changeNothing(INDEX, "would(0, #, 1)", Edges.beyond(0, 11), before);
            edges.changeNothing(INDEX, "would(#, 11, 4)", Edges.beyond(0, 11), before);
            edges.changeNothing(INDEX, "would(11, #, -1)", Edges.beyond(0, 11), before);
            edges.refuseNoPlaces("would(#, 1)", before);
        }
        edges.answers(0, "would(0, 0, 1)");
        edges.answers(0, "would(11, 11, 1)");
        edges.of("Promise 16", "Throws `IllegalArgumentException` if kind is not 0 to 3");
        for (String before : new String[] {"", Edges.FURNISHED, Edges.FULL}) {
            edges.changeNothing(ARGUMENT, "would(0, 0, #)", Edges.beyond(0, 3), before);
            edges.changeNothing(ARGUMENT, "would(11, 11, #)", Edges.beyond(0, 3), before);
        }
        edges.answers(0, "would(0, 0, 0)");
        edges.answers(0, "would(0, 0, 3)");
    }

    private static final String ADVICE = "Returns the neighbour of its cell where no lamp is to which it had best be carried,"
        + " so that the most cells are lit, of several the one with the smallest number; -1 if by none more are than now"
        + " (nothing is changed).";

    private void adviseAtSides() {
        edges.of("Promise 17", ADVICE);
        int[][] advice = {
            {0, 0, 1}, {11, 0, 10}, {0, 11, 120}, {11, 11, 131}, {1, 0, 13}, {0, 1, 13}, {10, 0, 22}, {11, 1, 22},
            {0, 10, 121}, {1, 11, 121}, {11, 10, 130}, {10, 11, 130}, {5, 0, 17}, {0, 5, 61}, {11, 5, 70}, {5, 11, 125},
            {1, 1, -1}, {5, 5, -1}, {10, 10, -1}};
        for (int[] a : advice) {
            edges.changesNothing(a[2], "advise(0)", "lamp(" + a[0] + ", " + a[1] + ", 1)");
        }
        edges.changesNothing(-1, "advise(0)", Edges.ALL_LIT);
        edges.changesNothing(-1, "advise(0)", "lamp(5, 5, 12); lamp(0, 0, 12)");
        edges.changesNothing(-1, "advise(1)", "lamp(5, 5, 12); lamp(0, 0, 12)");
    }

    private void adviseAmongLamps() {
        edges.of("Promise 17", ADVICE);
        edges.changesNothing(12, "advise(0)", "lamp(0, 0, 1); lamp(1, 0, 1)");
        edges.changesNothing(-1, "advise(0)", "lamp(0, 0, 1); lamp(1, 0, 1); lamp(0, 1, 1)");
        edges.changesNothing(12, "advise(0)", "lamp(0, 0, 3); lamp(1, 0, 1)");
        edges.changesNothing(1, "advise(0)", "lamp(0, 0, 3); lamp(0, 1, 1)");
        edges.changesNothing(-1, "advise(0)", "lamp(0, 0, 3); lamp(1, 0, 1); lamp(0, 1, 1)");
        edges.changesNothing(-1, "advise(0)", "lamp(0, 0, 12); set(1, 0, 1); set(0, 1, 1); lamp(1, 0, 1); lamp(0, 1, 1)");
        edges.changesNothing(-1, "advise(0)", "lamp(11, 0, 12); set(10, 0, 1); set(11, 1, 1); lamp(10, 0, 1); lamp(11, 1, 1)");
        edges.changesNothing(-1, "advise(0)", "lamp(0, 11, 12); set(1, 11, 1); set(0, 10, 1); lamp(1, 11, 1); lamp(0, 10, 1)");
        edges.changesNothing(-1, "advise(0)",
            "lamp(11, 11, 12); set(10, 11, 1); set(11, 10, 1); lamp(10, 11, 1); lamp(11, 10, 1)");
        edges.changesNothing(-1, "advise(0)", "lamp(0, 5, 1); lamp(1, 5, 1)");
        edges.changesNothing(-1, "advise(0)", "lamp(11, 5, 1); lamp(10, 5, 1)");
        edges.changesNothing(-1, "advise(0)", "lamp(5, 0, 1); lamp(5, 1, 1)");
        edges.changesNothing(-1, "advise(0)", "lamp(5, 11, 1); lamp(5, 10, 1)");
        edges.changesNothing(53, "advise(0)", "lamp(5, 5, 1); lamp(5, 6, 1)");
        edges.changesNothing(64, "advise(0)", "lamp(5, 5, 1); lamp(6, 5, 1)");
        edges.changesNothing(66, "advise(0)", "lamp(5, 5, 1); lamp(4, 5, 1)");
        edges.changesNothing(77, "advise(0)", "lamp(5, 5, 1); lamp(5, 4, 1)");
        edges.changesNothing(77, "advise(3)", "lamp(5, 4, 1); lamp(4, 5, 1); lamp(6, 5, 1); lamp(5, 5, 1)");
        edges.changesNothing(66, "advise(3)", "lamp(5, 4, 1); lamp(4, 5, 1); lamp(5, 6, 1); lamp(5, 5, 1)");
        for (int kind = 1; kind <= 3; kind++) {
            edges.changesNothing(1, "advise(0)", "lamp(0, 0, 1);", Edges.set(1, 0, kind), Edges.set(0, 1, kind));
        }
        edges.changesNothing(1, "advise(0)", "lamp(0, 0, 1);" + Edges.SIX_WATCHERS);
        edges.changesNothing(12, "advise(0)", "lamp(0, 0, 1); lamp(2, 0, 1)");
        edges.changesNothing(1, "advise(0)", "lamp(0, 0, 1); lamp(0, 2, 1)");
    }

    private void adviseRefused() {
        edges.of("Promise 17", "Throws `IndexOutOfBoundsException` if there is no such lamp");
        edges.changesNothing(INDEX, "advise(0)");
        edges.changeNothing(INDEX, "advise(#)", Edges.beyond(0, 0), "lamp(0, 0, 1)");
        edges.changeNothing(INDEX, "advise(#)", Edges.beyond(0, 1), Edges.FURNISHED);
        edges.changeNothing(INDEX, "advise(#)", Edges.beyond(0, 3), Edges.FULL);
        edges.changeNothing(INDEX, "advise(#)", new int[] {32, -32, 64}, Edges.FULL);
        edges.answers(131, "advise(3)", "lamp(0, 0, 1); lamp(11, 0, 1); lamp(0, 11, 1); lamp(11, 11, 1)");
    }

    private void darkest() {
        edges.of("Promise 18", "Returns the open cell that is the least bright, a dark one ahead of a lit one,"
            + " of several the one with the smallest number; -1 if none is open.");
        for (int kind = 1; kind <= 3; kind++) {
            edges.changesNothing(-1, "darkest()", Edges.all(kind));
            edges.changesNothing(0, "darkest()", Edges.all(kind), "set(0, 0, 0)");
            edges.changesNothing(143, "darkest()", Edges.all(kind), "set(11, 11, 0)");
            edges.changesNothing(143, "darkest()", Edges.all(kind), "set(11, 11, 0); lamp(11, 11, 12)");
            edges.changesNothing(1, "darkest()", Edges.set(0, 0, kind));
        }
        edges.changesNothing(0, "darkest()");
        edges.changesNothing(2, "darkest()", "lamp(0, 0, 1)");
        edges.changesNothing(0, "darkest()", "lamp(11, 11, 12)");
        edges.changesNothing(11, "darkest()", Edges.ALL_LIT);
        edges.changesNothing(23, "darkest()", Edges.ALL_LIT, "set(11, 0, 3)");
        edges.changesNothing(1, "darkest()", Edges.all(3), "set(0, 0, 0); set(1, 0, 0); lamp(0, 0, 2)");
        edges.changesNothing(0, "darkest()", Edges.all(3), "set(0, 0, 0); set(1, 0, 0); lamp(1, 0, 2)");
        edges.changesNothing(1, "darkest()", Edges.all(3), "set(1, 0, 0); set(0, 1, 0); lamp(0, 0, 2)");
        edges.changesNothing(143, "darkest()", Edges.all(3), "set(1, 0, 0); set(11, 11, 0); lamp(0, 0, 1)");
        edges.changesNothing(0, "darkest()", Edges.all(3), "set(0, 0, 0); set(11, 10, 0); lamp(11, 11, 1)");
        edges.changesNothing(142, "darkest()", Edges.all(3), "set(10, 11, 0); set(11, 11, 0); lamp(11, 11, 1)");
        edges.changesNothing(1, "darkest()", Edges.all(3),
            "set(1, 0, 0); set(2, 0, 0); lamp(0, 0, 1); lamp(2, 0, 2); lamp(3, 0, 1); lamp(2, 1, 1)");
    }

    private void mean() {
        edges.of("Promise 19", "Returns the mean of how bright all lit cells are; 0 without any.");
        edges.changesNothing("0.0", "mean()");
        edges.changesNothing("0.0", "mean()", Edges.SIX_WATCHERS, Edges.all(1));
        edges.changesNothing(1.0 / 3.0, "mean()", "lamp(0, 0, 1)");
        edges.changesNothing(0.2, "mean()", "lamp(5, 5, 1)");
        edges.changesNothing(5.0 / 6.0, "mean()", "lamp(0, 0, 2)");
        edges.changesNothing(0.2, "mean()", "lamp(5, 5, 1); lamp(1, 1, 1); lamp(9, 9, 1); lamp(1, 9, 1)");
        edges.changesNothing(2.0 / 8.0, "mean()", "lamp(5, 5, 1); lamp(5, 6, 1)");
        edges.changesNothing((12 + 11 * 4) / 5.0, "mean()", "lamp(5, 5, 12);", Edges.all(1));
        edges.changesNothing(Double.toString((12.0 + 11 * 8 + 10 * 16 + 9 * 24 + 8 * 32 + 7 * 40 + 6 * 23) / 144.0),
            "mean()", Edges.ALL_LIT);
    }

    private void digest() {
        edges.of("Promise 20", "Computes a checksum. A number d starts with 1447; for each of the following numbers x,"
            + " d becomes d * 31 + x, which wraps around as a 64-bit integer");
        edges.changesNothing(wrapped(BigInteger.valueOf(1447).multiply(BigInteger.valueOf(31).pow(8 + 2 * 144))), "digest()");
        for (String before : new String[] {"lamp(0, 0, 1)", "watcher(11, 11)", "set(11, 11, 3)", Edges.FURNISHED,
            Edges.FULL, Edges.all(3)}) {
            edges.changesNothing(wrapped(digestOf(before)), "digest()", before);
        }
        edges.changesNothing(wrapped(digestOf(Edges.FULL, "!lamp(5, 5, 12)")), "digest()", Edges.FULL);
        edges.of("Promise 20", "what count() tells, in its order; for each cell its kind, and how many lamps light it;"
            + " for each lamp what about() tells, for each watcher what seat() tells, all in their order.");
        BigInteger newYard = BigInteger.valueOf(1447).multiply(BigInteger.valueOf(31).pow(8 + 2 * 144));
        BigInteger oneWall = BigInteger.valueOf(31).pow(5 + 2 * 144).add(BigInteger.valueOf(31));
        edges.answers(wrapped(newYard.add(oneWall)), "digest()", "set(11, 11, 1)");
        edges.answers(wrapped(newYard.add(BigInteger.valueOf(31).pow(5 + 2 * 144)).add(BigInteger.valueOf(31).pow(2 * 144 - 1))),
            "digest()", "set(0, 0, 1)");
        edges.answers(wrapped(digestOf("lamp(0, 0, 1); lamp(11, 11, 2)")), "digest()", "lamp(0, 0, 1); lamp(11, 11, 2)");
        edges.answers(wrapped(digestOf("watcher(0, 0); watcher(11, 11)")), "digest()", "watcher(0, 0); watcher(11, 11)");
        edges.of("Promise 20", "Returns d.");
        edges.answers(wrapped(digestOf(Edges.FULL)), "digest()", Edges.FULL);
    }

    private static long wrapped(BigInteger number) {
        return number.longValue();
    }

    /** From what the face tells, without wrapping around on the way. */
    private static BigInteger digestOf(String... before) {
        Run yard = Run.after(before);
        BigInteger d = BigInteger.valueOf(1447);
        for (int what = 0; what < 8; what++) {
            d = next(d, yard.answer("count(" + what + ")"));
        }
        for (int cell = 0; cell < 144; cell++) {
            String told = "told(" + cell % 12 + ", " + cell / 12;
            d = next(next(d, yard.answer(told + ", 0)")), yard.answer(told + ", 2)"));
        }
        int lamps = Integer.parseInt(yard.answer("count(0)"));
        for (int number = 0; number < lamps * 4; number++) {
            d = next(d, yard.answer("about(" + number / 4 + ", " + number % 4 + ")"));
        }
        int watchers = Integer.parseInt(yard.answer("count(1)"));
        for (int number = 0; number < watchers * 5; number++) {
            d = next(d, yard.answer("seat(" + number / 5 + ", " + number % 5 + ")"));
        }
        return d;
    }

    private static BigInteger next(BigInteger d, String answer) {
        return d.multiply(BigInteger.valueOf(31)).add(new BigInteger(answer));
    }
}
