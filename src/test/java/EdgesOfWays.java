/** The boundary cases of promises 13 to 15: ways. */
final class EdgesOfWays {
    private static final String INDEX = Due.INDEX;

    private final Edges edges;

    EdgesOfWays(Edges edges) {
        this.edges = edges;
    }

    void run() {
        far();
        farRefused();
        stops();
        stopsRefused();
        creeps();
        creepsRefused();
    }

    private void far() {
        edges.of("Promise 13", "Returns how many cells the straight way comes to, behind the first one.");
        int[][] ways = {
            {0, 0, 0}, {143, 143, 0}, {0, 1, 1}, {0, 12, 1}, {0, 13, 1}, {143, 130, 1}, {0, 14, 3}, {0, 25, 3},
            {0, 15, 3}, {0, 37, 3}, {0, 16, 5}, {0, 26, 2}, {0, 28, 6}, {0, 143, 11}, {143, 0, 11}, {11, 132, 11},
            {132, 11, 11}, {0, 11, 11}, {0, 132, 11}, {0, 23, 11}, {23, 0, 11}, {0, 131, 21}, {131, 0, 21},
            {0, 142, 21}, {11, 120, 21}, {1, 132, 11}, {12, 11, 11}};
        for (int[] way : ways) {
            edges.changesNothing(way[2], "far(" + way[0] + ", " + way[1] + ")");
        }
        edges.changesNothing(11, "far(0, 143)", Edges.all(1));
        edges.changesNothing(21, "far(0, 131)", Edges.all(1));
    }

    private void farRefused() {
        edges.of("Promise 13", "Throws `IndexOutOfBoundsException` if from or to is not 0 to 143");
        for (String before : new String[] {"", Edges.FULL}) {
            edges.changeNothing(INDEX, "far(#, 0)", Edges.beyond(0, 143), before);
            edges.changeNothing(INDEX, "far(0, #)", Edges.beyond(0, 143), before);
            edges.changeNothing(INDEX, "far(#, 143)", Edges.beyond(0, 143), before);
            edges.changeNothing(INDEX, "far(143, #)", Edges.beyond(0, 143), before);
            edges.changeNothing(INDEX, "far(#, #)", Edges.beyond(0, 143), before);
        }
        edges.answers(0, "far(0, 0)");
        edges.answers(0, "far(143, 143)");
    }

    private void stops() {
        edges.of("Promise 14", "Returns 1 if light is stopped on the straight way from the one to the other one,"
            + " 2 if sight is, 3 if both are; 0 if none.");
        edges.changesNothing(0, "stops(0, 143)");
        edges.changesNothing(0, "stops(0, 0)", Edges.all(1));
        edges.changesNothing(0, "stops(143, 142)", Edges.all(1));
        edges.changesNothing(3, "stops(143, 130)", Edges.all(1));
        edges.changesNothing(1, "stops(143, 130)", Edges.all(2));
        edges.changesNothing(0, "stops(143, 0)", Edges.all(3));
        edges.changesNothing(3, "stops(0, 2)", Edges.all(1));
        edges.changesNothing(1, "stops(0, 2)", Edges.all(2));
        edges.changesNothing(0, "stops(0, 2)", Edges.all(3));
        edges.changesNothing(1, "stops(0, 11)", "set(1, 0, 2); set(10, 0, 2)");
        edges.changesNothing(3, "stops(0, 11)", "set(1, 0, 2); set(10, 0, 1)");
        edges.changesNothing(3, "stops(0, 11)", "set(1, 0, 1); set(10, 0, 2)");
        edges.changesNothing(3, "stops(11, 0)", "set(1, 0, 1); set(10, 0, 2)");
        edges.changesNothing(0, "stops(0, 11)", "set(1, 0, 3); set(0, 0, 1); set(11, 0, 1); set(5, 1, 1)");
        edges.changesNothing(3, "stops(0, 26)", "set(1, 0, 1); set(0, 1, 2); set(1, 1, 1)");
        edges.changesNothing(1, "stops(0, 26)", "set(1, 0, 1); set(0, 1, 2); set(2, 1, 2); set(1, 2, 1)");
        edges.changesNothing(3, "stops(0, 15)", "set(2, 0, 1); set(1, 1, 1)");
        edges.changesNothing(1, "stops(0, 15)", "set(2, 0, 1); set(1, 1, 2)");
        edges.changesNothing(0, "stops(0, 15)", "set(2, 0, 1); set(1, 1, 3)");
        edges.changesNothing(3, "stops(0, 131)", "set(1, 0, 1)");
        edges.changesNothing(3, "stops(0, 131)", "set(10, 10, 1)");
        edges.changesNothing(0, "stops(0, 131)", "set(0, 1, 1); set(11, 9, 1); set(11, 11, 1)");
        edges.changesNothing(1, "stops(0, 131)", "set(10, 9, 2)");
    }

    private void stopsRefused() {
        edges.of("Promise 14", "Throws `IndexOutOfBoundsException` if from or to is not 0 to 143");
        for (String before : new String[] {"", Edges.FULL}) {
            edges.changeNothing(INDEX, "stops(#, 0)", Edges.beyond(0, 143), before);
            edges.changeNothing(INDEX, "stops(0, #)", Edges.beyond(0, 143), before);
            edges.changeNothing(INDEX, "stops(#, 143)", Edges.beyond(0, 143), before);
            edges.changeNothing(INDEX, "stops(143, #)", Edges.beyond(0, 143), before);
            edges.changeNothing(INDEX, "stops(#, #)", Edges.beyond(0, 143), before);
        }
        edges.answers(3, "stops(0, 143)", "set(5, 5, 1)");
        edges.answers(3, "stops(143, 0)", "set(5, 5, 1)");
    }

    private void creeps() {
        edges.of("Promise 15", "Returns in how many steps it can creep there; 0 if it is there; -1 if it cannot.");
        edges.changesNothing(0, "creeps(0, 11, 11)", "watcher(11, 11)");
        edges.changesNothing(0, "creeps(0, 11, 11)", "watcher(11, 11); lamp(11, 11, 1)");
        edges.changesNothing(0, "creeps(0, 11, 11)", "watcher(11, 11); set(11, 11, 1)");
        edges.changesNothing(1, "creeps(0, 11, 10)", "watcher(11, 11)");
        edges.changesNothing(22, "creeps(0, 0, 0)", "watcher(11, 11)");
        edges.changesNothing(22, "creeps(5, 0, 0)", "watcher(11, 11);".repeat(6));
        edges.changesNothing(-1, "creeps(0, 10, 11)", "watcher(11, 11); lamp(9, 11, 1)");
        edges.changesNothing(2, "creeps(0, 10, 10)", "watcher(11, 11); lamp(9, 11, 1)");
        edges.changesNothing(-1, "creeps(0, 10, 10)", "watcher(11, 11); lamp(10, 11, 1)");
        edges.changesNothing(2, "creeps(0, 11, 9)", "watcher(11, 11); lamp(10, 11, 1)");
        edges.changesNothing(-1, "creeps(0, 11, 9)", "watcher(11, 11); lamp(11, 11, 1)");
        for (int kind = 1; kind <= 3; kind++) {
            edges.changesNothing(-1, "creeps(0, 11, 10)", "watcher(11, 11);", Edges.set(11, 10, kind));
            edges.changesNothing(4, "creeps(0, 11, 9)", "watcher(11, 11);", Edges.set(11, 10, kind));
            edges.changesNothing(-1, "creeps(0, 11, 9)", "watcher(11, 11);", Edges.row(10, kind));
            edges.changesNothing(24, "creeps(0, 11, 9)", "watcher(11, 11);", Edges.row(10, kind), "set(0, 10, 0)");
        }
        edges.changesNothing(-1, "creeps(0, 0, 0)", "watcher(11, 11); lamp(0, 0, 1)");
        edges.changesNothing(22, "creeps(0, 0, 0)", "watcher(11, 11); lamp(5, 5, 1)");
    }

    private void creepsRefused() {
        edges.of("Promise 15", "Throws `IndexOutOfBoundsException` if there is no such watcher, or x or y is not 0 to 11");
        edges.changesNothing(INDEX, "creeps(0, 0, 0)");
        edges.changeNothing(INDEX, "creeps(#, 0, 9)", Edges.beyond(0, 1), Edges.FURNISHED);
        edges.changeNothing(INDEX, "creeps(#, 5, 5)", Edges.beyond(0, 5), Edges.FULL);
        edges.changeNothing(INDEX, "creeps(0, #, 0)", Edges.beyond(0, 11), Edges.FURNISHED);
        edges.changeNothing(INDEX, "creeps(5, 11, #)", Edges.beyond(0, 11), Edges.FULL);
        edges.refuseNoPlaces("creeps(0, #)", Edges.FULL);
        edges.answers(10, "creeps(5, 0, 0)", Edges.SIX_WATCHERS);
        edges.answers(12, "creeps(5, 11, 11)", Edges.SIX_WATCHERS);
        edges.answers(0, "creeps(0, 0, 0)", Edges.SIX_WATCHERS);
    }
}
