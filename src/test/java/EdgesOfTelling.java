/** The boundary cases of promises 8 to 12: what is there. */
final class EdgesOfTelling {
    private static final String INDEX = Due.INDEX;

    private final Edges edges;

    EdgesOfTelling(Edges edges) {
        this.edges = edges;
    }

    void run() {
        told();
        toldEach();
        toldRefused();
        about();
        aboutEach();
        aboutRefused();
        seat();
        seatEach();
        seatRefused();
        sees();
        seesRefused();
        count();
        countEach();
        countEdgesOfLight();
        countSteps();
        countRefused();
    }

    private void told() {
        edges.of("Promise 8",
            "- `what`: 0 its kind, 1 how bright it is, 2 lamps that light it, 3 watchers at it, 4 watchers who see it");
        edges.changesNothing(0, "told(0, 0, 0)", "set(1, 0, 1); set(0, 1, 1)");
        edges.changesNothing(3, "told(11, 11, 0)", "set(11, 11, 3)");
        edges.changesNothing(0, "told(11, 11, 1)", "lamp(0, 0, 12)");
        edges.changesNothing(12, "told(11, 11, 1)", "lamp(11, 11, 12)");
        edges.changesNothing(0, "told(0, 3, 1)", "lamp(0, 0, 3)");
        edges.changesNothing(1, "told(0, 3, 2)", "lamp(0, 0, 3)");
        edges.changesNothing(0, "told(0, 4, 2)", "lamp(0, 0, 3)");
        edges.changesNothing(4, "told(0, 0, 2)", "lamp(0, 0, 1); lamp(1, 0, 1); lamp(0, 1, 1); lamp(1, 1, 2)");
        edges.changesNothing(2, "told(0, 0, 1)", "lamp(0, 0, 1); lamp(1, 0, 1); lamp(0, 1, 1); lamp(1, 1, 2)");
        edges.changesNothing(3, "told(0, 0, 2)", "lamp(0, 0, 1); lamp(1, 0, 1); lamp(0, 1, 1); lamp(1, 1, 1)");
        edges.changesNothing(0, "told(5, 6, 3)", Edges.SIX_WATCHERS);
        edges.changesNothing(2, "told(5, 5, 3)", Edges.SIX_WATCHERS);
        edges.changesNothing(6, "told(0, 0, 3)", "watcher(0, 0);".repeat(6));
        edges.changesNothing(0, "told(0, 0, 4)", Edges.ALL_LIT);
        edges.changesNothing(0, "told(5, 5, 4)", Edges.SIX_WATCHERS);
        edges.changesNothing(6, "told(5, 5, 4)", Edges.SIX_WATCHERS, "lamp(5, 5, 1)");
        edges.changesNothing(4, "told(5, 5, 4)", Edges.SIX_WATCHERS, "lamp(5, 5, 1); set(4, 4, 1); set(7, 7, 1)");
    }

    private void toldEach() {
        edges.of("Promise 8", "Returns this.");
        int[] due = {3, 4, 2, 1, 5};
        for (int what = 0; what <= 4; what++) {
            edges.changesNothing(due[what], "told(5, 5, " + what + ")", "watcher(5, 5); watcher(0, 0); watcher(11, 0);"
                + "watcher(0, 11); watcher(11, 11); set(5, 5, 3); lamp(5, 5, 4); lamp(4, 5, 1)");
        }
    }

    private void toldRefused() {
        edges.of("Promise 8", "Throws `IndexOutOfBoundsException` if x or y is not 0 to 11, or what is not 0 to 4");
        for (String before : new String[] {"", Edges.FULL}) {
            edges.changeNothing(INDEX, "told(#, 0, 0)", Edges.beyond(0, 11), before);
            edges.changeNothing(INDEX, "told(11, #, 4)", Edges.beyond(0, 11), before);
            edges.changeNothing(INDEX, "told(0, 0, #)", Edges.beyond(0, 4), before);
            edges.changeNothing(INDEX, "told(11, 11, #)", Edges.beyond(0, 4), before);
        }
        edges.refuseNoPlaces("told(#, 0)", Edges.FULL);
        for (int what = 0; what <= 4; what++) {
            edges.answers(0, "told(0, 0, " + what + ")");
            edges.answers(0, "told(11, 11, " + what + ")");
        }
    }

    private void about() {
        edges.of("Promise 9", "- `what`: 0 its cell, 1 its reach, 2 cells that it lights, 3 cells that it alone lights");
        edges.changesNothing(0, "about(0, 0)", Edges.FULL);
        edges.changesNothing(143, "about(3, 0)", Edges.FULL);
        edges.changesNothing(1, "about(0, 1)", Edges.FULL);
        edges.changesNothing(4, "about(3, 1)", Edges.FULL);
        edges.changesNothing(3, "about(0, 2)", "lamp(11, 11, 1)");
        edges.changesNothing(144, "about(0, 2)", Edges.ALL_LIT);
        edges.changesNothing(144, "about(0, 3)", Edges.ALL_LIT);
        edges.changesNothing(5, "about(1, 2)", Edges.ALL_LIT, "lamp(6, 5, 1)");
        edges.changesNothing(0, "about(1, 3)", Edges.ALL_LIT, "lamp(6, 5, 1)");
        edges.changesNothing(139, "about(0, 3)", Edges.ALL_LIT, "lamp(6, 5, 1)");
        edges.changesNothing(5, "about(1, 3)", "lamp(2, 5, 1); lamp(5, 5, 1)");
        edges.changesNothing(4, "about(1, 3)", "lamp(3, 5, 1); lamp(5, 5, 1)");
        edges.changesNothing(3, "about(1, 3)", "lamp(4, 5, 1); lamp(5, 5, 1)");
        edges.changesNothing(5, "about(1, 2)", "lamp(4, 5, 1); lamp(5, 5, 1)");
        edges.changesNothing(0, "about(3, 3)", "lamp(4, 5, 1); lamp(6, 5, 1); lamp(5, 5, 2); lamp(5, 6, 1)", "turn(2, 4)");
    }

    private void aboutEach() {
        edges.of("Promise 9", "Returns this.");
        int[] due = {13, 1, 5, 4};
        for (int what = 0; what <= 3; what++) {
            edges.changesNothing(due[what], "about(0, " + what + ")", "lamp(1, 1, 1); lamp(3, 1, 1)");
        }
    }

    private void aboutRefused() {
        edges.of("Promise 9", "Throws `IndexOutOfBoundsException` if there is no such lamp, or what is not 0 to 3");
        edges.changesNothing(INDEX, "about(0, 0)");
        edges.changesNothing(INDEX, "about(0, 4)");
        edges.changeNothing(INDEX, "about(#, 0)", Edges.beyond(0, 1), Edges.FURNISHED);
        edges.changeNothing(INDEX, "about(#, 2)", Edges.beyond(0, 3), Edges.FULL);
        edges.changeNothing(INDEX, "about(#, 3)", new int[] {32, -32, 64}, Edges.FULL);
        edges.changeNothing(INDEX, "about(0, #)", Edges.beyond(0, 3), Edges.FULL);
        edges.changeNothing(INDEX, "about(3, #)", Edges.beyond(0, 3), Edges.FULL);
        edges.answers(3, "about(3, 1)", "lamp(0, 0, 1); lamp(1, 0, 1); lamp(2, 0, 1); lamp(3, 0, 3)");
    }

    private void seat() {
        edges.of("Promise 10", "- `what`: 0 its cell, 1 cells that it sees, 2 1 if it is hidden, else 0,"
            + " 3 1 if its cell is lit, else 0, 4 other watchers whom it sees");
        edges.changesNothing(0, "seat(0, 0)", Edges.FULL);
        edges.changesNothing(143, "seat(3, 0)", Edges.FULL);
        edges.changesNothing(0, "seat(0, 1)", "watcher(0, 0)");
        edges.changesNothing(144, "seat(0, 1)", "watcher(0, 0);", Edges.ALL_LIT);
        edges.changesNothing(144, "seat(0, 1)", "watcher(11, 11);", Edges.ALL_LIT);
        edges.changesNothing(3, "seat(0, 1)", "watcher(11, 11); lamp(0, 0, 1)");
        edges.changesNothing(3, "seat(0, 1)", "watcher(0, 0); set(1, 0, 1); set(0, 1, 1); lamp(0, 0, 2)");
        edges.changesNothing(0, "seat(0, 1)", "watcher(0, 0); set(1, 0, 1); set(0, 1, 1); lamp(11, 11, 1)");
        edges.changesNothing(1, "seat(0, 2)", "watcher(0, 0)");
        edges.changesNothing(1, "seat(0, 2)", "watcher(0, 0);", Edges.ALL_LIT);
        edges.changesNothing(0, "seat(0, 2)", "watcher(0, 0); watcher(11, 11);", Edges.ALL_LIT);
        edges.changesNothing(1, "seat(0, 2)", "watcher(0, 0); watcher(0, 0)");
        edges.changesNothing(0, "seat(0, 3)", "watcher(1, 1); lamp(0, 0, 1)");
        edges.changesNothing(1, "seat(0, 3)", "watcher(1, 0); lamp(0, 0, 1)");
        edges.changesNothing(0, "seat(0, 4)", "watcher(0, 0);", Edges.ALL_LIT);
        edges.changesNothing(1, "seat(0, 4)", "watcher(0, 0); watcher(0, 0);", Edges.ALL_LIT);
        edges.changesNothing(0, "seat(0, 4)", "watcher(0, 0); watcher(0, 0)");
        edges.changesNothing(5, "seat(5, 4)", Edges.SIX_WATCHERS, Edges.ALL_LIT);
        edges.changesNothing(4, "seat(0, 4)", Edges.SIX_WATCHERS, Edges.ALL_LIT, "set(1, 0, 1)");
        edges.changesNothing(2, "seat(0, 4)", Edges.SIX_WATCHERS, "lamp(5, 5, 1)");
        edges.changesNothing(1, "seat(4, 4)", Edges.SIX_WATCHERS, "lamp(5, 5, 1)");
    }

    private void seatEach() {
        edges.of("Promise 10", "Returns this.");
        int[] due = {143, 3, 1, 0, 2};
        for (int what = 0; what <= 4; what++) {
            edges.changesNothing(due[what], "seat(0, " + what + ")",
                "watcher(11, 11); watcher(0, 0); watcher(0, 0); lamp(0, 0, 1)");
        }
    }

    private void seatRefused() {
        edges.of("Promise 10", "Throws `IndexOutOfBoundsException` if there is no such watcher, or what is not 0 to 4");
        edges.changesNothing(INDEX, "seat(0, 0)");
        edges.changesNothing(INDEX, "seat(0, 5)");
        edges.changeNothing(INDEX, "seat(#, 0)", Edges.beyond(0, 1), Edges.FURNISHED);
        edges.changeNothing(INDEX, "seat(#, 4)", Edges.beyond(0, 5), Edges.FULL);
        edges.changeNothing(INDEX, "seat(0, #)", Edges.beyond(0, 4), Edges.FULL);
        edges.changeNothing(INDEX, "seat(5, #)", Edges.beyond(0, 4), Edges.FULL);
        edges.answers(65, "seat(5, 0)", Edges.FULL);
        edges.answers(0, "seat(5, 4)", Edges.SIX_WATCHERS);
    }

    private void sees() {
        edges.of("Promise 11", "Returns whether the first one sees the cell of the second one.");
        edges.changesNothing("true", "sees(0, 1)", "watcher(0, 0); watcher(11, 0); lamp(11, 0, 1)");
        edges.changesNothing("false", "sees(1, 0)", "watcher(0, 0); watcher(11, 0); lamp(11, 0, 1)");
        edges.changesNothing("true", "sees(0, 1)", "watcher(0, 0); watcher(10, 0); lamp(11, 0, 1)");
        edges.changesNothing("false", "sees(0, 1)", "watcher(0, 0); watcher(9, 0); lamp(11, 0, 1)");
        edges.changesNothing("false", "sees(0, 1)", "watcher(0, 0); watcher(0, 0)");
        edges.changesNothing("true", "sees(0, 1)", "watcher(0, 0); watcher(0, 0); lamp(0, 1, 1)");
        edges.changesNothing("true", "sees(0, 1)", "watcher(0, 0); watcher(1, 0); lamp(1, 0, 1); set(0, 0, 1); set(1, 0, 1)");
        edges.changesNothing("false", "sees(0, 1)", "watcher(0, 0); watcher(2, 0); lamp(2, 0, 1); set(1, 0, 1)");
        edges.changesNothing("true", "sees(0, 1)", "watcher(0, 0); watcher(2, 0); lamp(2, 0, 1); set(1, 0, 2)");
        edges.changesNothing("true", "sees(0, 1)", "watcher(0, 0); watcher(2, 0); lamp(2, 0, 1); set(1, 0, 3)");
        edges.changesNothing("true", "sees(5, 0)", Edges.FULL);
        edges.changesNothing("false", "sees(0, 5)", Edges.FULL);
        edges.changesNothing("true", "sees(0, 0)", Edges.FULL);
        edges.changesNothing("false", "sees(5, 5)", Edges.FULL);
    }

    private void seesRefused() {
        edges.of("Promise 11", "Throws `IndexOutOfBoundsException` if there is no such watcher");
        edges.changesNothing(INDEX, "sees(0, 0)");
        edges.changeNothing(INDEX, "sees(#, 0)", Edges.beyond(0, 1), Edges.FURNISHED);
        edges.changeNothing(INDEX, "sees(0, #)", Edges.beyond(0, 1), Edges.FURNISHED);
        edges.changeNothing(INDEX, "sees(#, 5)", Edges.beyond(0, 5), Edges.FULL);
        edges.changeNothing(INDEX, "sees(5, #)", Edges.beyond(0, 5), Edges.FULL);
        edges.changeNothing(INDEX, "sees(#, #)", Edges.beyond(0, 5), Edges.FULL);
        edges.answers("true", "sees(5, 4)", Edges.SIX_WATCHERS, Edges.ALL_LIT);
    }

    private void count() {
        edges.of("Promise 12", "- `what`: 0 lamps, 1 watchers, 2 cells that are not open, 3 lit cells,"
            + " 4 pairs of neighbours of which the one is lit, and the other one dark (each pair once),"
            + " 5 hidden watchers, 6 how bright all cells are, added, 7 steps that were crept in all");
        edges.changesNothing(4, "count(0)", Edges.FULL);
        edges.changesNothing(4, "count(0)", Edges.FULL, "!lamp(5, 5, 1)");
        edges.changesNothing(6, "count(1)", Edges.FULL);
        edges.changesNothing(6, "count(1)", Edges.FULL, "!watcher(7, 7)");
        edges.changesNothing(0, "count(2)", Edges.FULL);
        edges.changesNothing(1, "count(2)", "set(0, 0, 3)");
        edges.changesNothing(1, "count(2)", "set(11, 11, 1); set(0, 0, 2); set(0, 0, 0)");
        edges.changesNothing(144, "count(2)", Edges.all(3));
        edges.changesNothing(0, "count(3)", Edges.SIX_WATCHERS);
        edges.changesNothing(3, "count(3)", "lamp(0, 0, 1)");
        edges.changesNothing(144, "count(3)", Edges.ALL_LIT);
        edges.changesNothing(144, "count(3)", Edges.ALL_LIT, "lamp(6, 5, 12); lamp(5, 6, 12); lamp(6, 6, 12)");
        edges.changesNothing(6, "count(5)", Edges.SIX_WATCHERS);
        edges.changesNothing(0, "count(5)", Edges.SIX_WATCHERS, Edges.ALL_LIT);
        edges.changesNothing(1, "count(5)", "watcher(0, 0);", Edges.ALL_LIT);
        edges.changesNothing(4, "count(5)", Edges.SIX_WATCHERS, "lamp(5, 5, 1)");
        edges.changesNothing(0, "count(6)", Edges.SIX_WATCHERS);
        edges.changesNothing(1, "count(6)", "lamp(0, 0, 1)");
        edges.changesNothing(4, "count(6)", "lamp(0, 0, 1); lamp(11, 0, 1); lamp(0, 11, 1); lamp(11, 11, 1)");
        edges.changesNothing(2 + 3, "count(6)", "lamp(0, 0, 2)");
    }

    private void countEach() {
        edges.of("Promise 12", "Returns this.");
        int[] due = {1, 4, 2, 13, 20, 3, 10, 7};
        for (int what = 0; what <= 7; what++) {
            edges.changesNothing(due[what], "count(" + what + ")", "lamp(5, 5, 2); set(11, 11, 1); set(11, 10, 2);"
                + "watcher(5, 5); watcher(0, 0); watcher(0, 0); watcher(0, 0); creep(1, 0, 7)");
        }
    }

    private void countEdgesOfLight() {
        edges.of("Promise 12", "4 pairs of neighbours of which the one is lit, and the other one dark (each pair once)");
        edges.changesNothing(0, "count(4)");
        edges.changesNothing(0, "count(4)", Edges.ALL_LIT);
        edges.changesNothing(12, "count(4)", "lamp(5, 5, 1)");
        edges.changesNothing(10, "count(4)", "lamp(1, 1, 1)");
        edges.changesNothing(4, "count(4)", "lamp(11, 11, 1)");
        edges.changesNothing(7, "count(4)", "lamp(11, 6, 1)");
        edges.changesNothing(7, "count(4)", "lamp(0, 6, 1)");
        edges.changesNothing(24, "count(4)", "lamp(3, 3, 1); lamp(8, 8, 1)");
        edges.changesNothing(14, "count(4)", "lamp(5, 5, 1); lamp(6, 5, 1)");
        edges.changesNothing(2, "count(4)", Edges.ALL_LIT, "set(10, 11, 1); set(11, 10, 1)");
    }

    private void countSteps() {
        edges.of("Promise 12", "7 steps that were crept in all");
        edges.changesNothing(0, "count(7)", "watcher(0, 0); creep(0, 0, 0)");
        edges.changesNothing(1, "count(7)", "watcher(0, 0); creep(0, 1, 0)");
        edges.changesNothing(2, "count(7)", "watcher(0, 0); creep(0, 1, 0); creep(0, 0, 0)");
        edges.changesNothing(44, "count(7)", "watcher(0, 0); watcher(11, 11); creep(0, 11, 11); creep(1, 0, 0)");
        edges.changesNothing(0, "count(7)", "watcher(0, 0); creeps(0, 11, 11)");
        edges.changesNothing(1, "count(7)", "watcher(0, 0); creep(0, 0, 1); set(5, 5, 1); !creep(0, 5, 5); !creep(0, 12, 0)");
    }

    private void countRefused() {
        edges.of("Promise 12", "Throws `IndexOutOfBoundsException` if what is not 0 to 7");
        for (String before : new String[] {"", Edges.FULL}) {
            edges.changeNothing(INDEX, "count(#)", Edges.beyond(0, 7), before);
        }
        edges.answers(0, "count(0)");
        edges.answers(0, "count(7)");
    }
}
