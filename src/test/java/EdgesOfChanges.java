/** The boundary cases of promises 1 to 7: the yard, lamps, watchers. */
final class EdgesOfChanges {
    private static final String INDEX = Due.INDEX;
    private static final String ARGUMENT = Due.ARGUMENT;
    private static final String STATE = Due.STATE;
    private static final String[] BOTH = {"", Edges.FURNISHED};

    private final Edges edges;

    EdgesOfChanges(Edges edges) {
        this.edges = edges;
    }

    void run() {
        newObject();
        set();
        setRefused();
        lamp();
        lampRefused();
        carry();
        carryRefused();
        turn();
        turnRefused();
        watcher();
        watcherRefused();
        creep();
        creepRefused();
    }

    private void newObject() {
        edges.of("Promise 1", "Creates an open yard without lamps and watchers.");
        for (int what = 0; what <= 7; what++) {
            edges.changesNothing(0, "count(" + what + ")");
        }
        for (int cell = 0; cell < 144; cell++) {
            for (int what = 0; what <= 4; what++) {
                edges.answers(0, "told(" + cell % 12 + ", " + cell / 12 + ", " + what + ")");
            }
        }
        edges.changesNothing(0, "darkest()");
        edges.changesNothing("0.0", "mean()");
        String[] none = {
            "carry(0, 0, 0)", "turn(0, 1)", "creep(0, 0, 0)", "about(0, 0)", "seat(0, 0)", "sees(0, 0)",
            "creeps(0, 0, 0)", "advise(0)"};
        for (String call : none) {
            edges.changesNothing(INDEX, call);
        }
        edges.answers(0, "lamp(0, 0, 1)");
        edges.answers(0, "watcher(0, 0)");
    }

    private void set() {
        edges.of("Promise 2", "Returns what it was.");
        for (int before = 0; before <= 3; before++) {
            for (int kind = 0; kind <= 3; kind++) {
                edges.answers(before, "set(11, 0, " + kind + ")", Edges.set(11, 0, before));
            }
        }
        edges.answers(3, "set(0, 11, 0)", "set(0, 11, 1); set(0, 11, 2); set(0, 11, 3)");
        edges.answers(0, "set(0, 11, 1)", "set(0, 11, 1); set(0, 11, 0)");
        edges.answers(2, "set(0, 0, 1)", "set(0, 0, 2); !set(0, 0, 4)");
        edges.of("Promise 2", "- `kind`: what it is from now on: 0 to 3");
        int[] corners = {0, 11, 132, 143};
        for (int cell : corners) {
            for (int kind = 0; kind <= 3; kind++) {
                String set = Edges.set(cell % 12, cell / 12, kind);
                edges.answers(kind, "told(" + cell % 12 + ", " + cell / 12 + ", 0)", set);
                edges.answers(kind == 0 ? 0 : 1, "count(2)", set);
            }
        }
        edges.answers(6, "count(3)", "lamp(0, 0, 2); set(1, 0, 1); set(1, 0, 0)");
        edges.answers(5, "count(3)", "lamp(0, 0, 2); set(1, 0, 3); set(1, 0, 2)");
        edges.answers(6, "count(3)", "lamp(0, 0, 2); set(1, 0, 2); set(1, 0, 3)");
    }

    private void setRefused() {
        edges.of("Promise 2", "Throws `IndexOutOfBoundsException` if x or y is not 0 to 11");
        for (String before : BOTH) {
            edges.changeNothing(INDEX, "set(#, 0, 1)", Edges.beyond(0, 11), before);
            edges.changeNothing(INDEX, "set(0, #, 1)", Edges.beyond(0, 11), before);
            edges.changeNothing(INDEX, "set(#, 11, 4)", Edges.beyond(0, 11), before);
            edges.changeNothing(INDEX, "set(11, #, -1)", Edges.beyond(0, 11), before);
            edges.refuseNoPlaces("set(#, 1)", before);
        }
        edges.answers(0, "set(0, 0, 1)");
        edges.answers(0, "set(11, 11, 1)");
        edges.of("Promise 2", "Throws `IllegalArgumentException` if kind is not 0 to 3");
        for (String before : BOTH) {
            edges.changeNothing(ARGUMENT, "set(0, 0, #)", Edges.beyond(0, 3), before);
            edges.changeNothing(ARGUMENT, "set(11, 11, #)", Edges.beyond(0, 3), before);
        }
        edges.answers(0, "set(0, 0, 0)");
        edges.answers(0, "set(0, 0, 3)");
    }

    private void lamp() {
        edges.of("Promise 3", "Returns its number.");
        String before = "";
        for (int others = 0; others <= 3; others++) {
            edges.answers(others, "lamp(11, 11, 1)", before);
            edges.answers(others, "lamp(0, 0, 12)", before);
            edges.answers(others, "lamp(1, 0, 5)", before, "!lamp(0, 0, 0)");
            edges.answers(others + 1, "count(0)", before, "lamp(11, 11, 12)");
            before += "lamp(5, " + others + ", 12);";
        }
        edges.answers(144, "count(3)", "lamp(5, 5, 12)");
        edges.answers(3, "count(3)", "lamp(11, 11, 1)");
    }

    private void lampRefused() {
        edges.of("Promise 3", "Throws `IndexOutOfBoundsException` if x or y is not 0 to 11");
        for (String before : new String[] {"", Edges.FURNISHED, Edges.FOUR_LAMPS}) {
            edges.changeNothing(INDEX, "lamp(#, 0, 1)", Edges.beyond(0, 11), before);
            edges.changeNothing(INDEX, "lamp(0, #, 1)", Edges.beyond(0, 11), before);
            edges.changeNothing(INDEX, "lamp(#, 11, 0)", Edges.beyond(0, 11), before);
            edges.changeNothing(INDEX, "lamp(11, #, 13)", Edges.beyond(0, 11), before);
            edges.refuseNoPlaces("lamp(#, 1)", before);
        }
        edges.answers(0, "lamp(0, 0, 1)");
        edges.answers(0, "lamp(11, 11, 1)");
        edges.of("Promise 3", "Throws `IllegalArgumentException` if reach is not 1 to 12");
        for (String before : new String[] {"", Edges.FURNISHED, Edges.FOUR_LAMPS}) {
            edges.changeNothing(ARGUMENT, "lamp(0, 0, #)", Edges.beyond(1, 12), before);
            edges.changeNothing(ARGUMENT, "lamp(1, 2, #)", Edges.beyond(1, 12), before);
            edges.changeNothing(ARGUMENT, "lamp(5, 5, #)", Edges.beyond(1, 12), before);
        }
        edges.answers(0, "lamp(0, 0, 1)");
        edges.answers(0, "lamp(0, 0, 12)");
        edges.of("Promise 3", "Throws `IllegalStateException` if there are 4, or one is there");
        edges.changesNothing(STATE, "lamp(5, 5, 1)", Edges.FOUR_LAMPS);
        edges.changesNothing(STATE, "lamp(0, 0, 12)", Edges.FOUR_LAMPS);
        edges.answers(3, "lamp(5, 5, 1)", "lamp(0, 0, 1); lamp(11, 0, 2); lamp(0, 11, 3)");
        edges.changesNothing(STATE, "lamp(0, 0, 1)", "lamp(0, 0, 1)");
        edges.changesNothing(STATE, "lamp(11, 11, 12)", "lamp(0, 0, 1); lamp(11, 11, 1)");
        edges.changesNothing(STATE, "lamp(0, 0, 12)", "lamp(0, 0, 1); lamp(11, 11, 1)");
        edges.changesNothing(STATE, "lamp(5, 5, 1)", "lamp(0, 0, 1); carry(0, 5, 5)");
        edges.answers(1, "lamp(0, 0, 1)", "lamp(0, 0, 1); carry(0, 5, 5)");
        edges.answers(1, "lamp(1, 0, 1)", "lamp(0, 0, 1)");
        edges.answers(1, "lamp(0, 1, 1)", "lamp(1, 0, 1)");
        edges.answers(0, "lamp(0, 0, 1)", Edges.SIX_WATCHERS);
    }

    private void carry() {
        edges.of("Promise 4", "Returns how many cells are lit then.");
        edges.answers(3, "carry(0, 11, 11)", "lamp(5, 5, 1)");
        edges.answers(3, "carry(0, 0, 0)", "lamp(11, 11, 1)");
        edges.answers(4, "carry(0, 0, 5)", "lamp(0, 0, 1)");
        edges.answers(5, "carry(0, 5, 5)", "lamp(0, 0, 1)");
        edges.answers(121, "carry(0, 11, 0)", "lamp(5, 5, 12)");
        edges.answers(144, "carry(0, 5, 5)", "lamp(0, 0, 12)");
        edges.answers(144, "carry(1, 11, 11)", "lamp(5, 5, 12); lamp(0, 0, 1)");
        edges.answers(8, "carry(0, 5, 5)", "lamp(0, 0, 1); lamp(6, 5, 1)");
        edges.answers(10, "carry(0, 4, 5)", "lamp(0, 0, 1); lamp(7, 5, 1)");
        edges.answers(12, "carry(3, 5, 5)", "lamp(4, 5, 1); lamp(6, 5, 1); lamp(5, 4, 1); lamp(5, 7, 1)");
        edges.answers(10, "carry(3, 11, 10)", "lamp(0, 0, 1); lamp(1, 0, 1); lamp(0, 1, 1); lamp(11, 11, 1)");
        for (int kind = 1; kind <= 3; kind++) {
            edges.answers(5, "carry(0, 5, 5)", "lamp(0, 0, 1);", Edges.set(5, 5, kind));
        }
        edges.answers(5, "carry(0, 5, 5)", "lamp(0, 0, 12);", Edges.all(2));
        for (int lamp = 0; lamp <= 3; lamp++) {
            String carried = "carry(" + lamp + ", 5, 6)";
            edges.answers(77, "about(" + lamp + ", 0)", Edges.FOUR_LAMPS, carried);
            edges.answers(lamp + 1, "about(" + lamp + ", 1)", Edges.FOUR_LAMPS, carried);
            edges.answers(1, "told(5, 6, 2)", Edges.FOUR_LAMPS, carried);
        }
    }

    private void carryRefused() {
        edges.of("Promise 4", "Throws `IndexOutOfBoundsException` if there is no such lamp, or x or y is not 0 to 11");
        edges.changesNothing(INDEX, "carry(0, 0, 0)");
        edges.changeNothing(INDEX, "carry(#, 5, 5)", Edges.beyond(0, 1), Edges.FURNISHED);
        edges.changeNothing(INDEX, "carry(#, 8, 8)", Edges.beyond(0, 1), Edges.FURNISHED);
        edges.changeNothing(INDEX, "carry(#, 5, 5)", Edges.beyond(0, 3), Edges.FOUR_LAMPS);
        edges.changeNothing(INDEX, "carry(0, #, 0)", Edges.beyond(0, 11), Edges.FURNISHED);
        edges.changeNothing(INDEX, "carry(1, 0, #)", Edges.beyond(0, 11), Edges.FURNISHED);
        edges.changeNothing(INDEX, "carry(#, 5, 5)", new int[] {32, -32, 64}, Edges.FURNISHED);
        edges.refuseNoPlaces("carry(0, #)", Edges.FURNISHED);
        edges.answers(8, "carry(0, 0, 11)", "lamp(0, 0, 1); lamp(5, 5, 1)");
        edges.answers(6, "carry(1, 11, 0)", "lamp(0, 0, 1); lamp(5, 5, 1)");
        edges.answers(14, "carry(3, 11, 11)", "lamp(0, 0, 1); lamp(11, 0, 1); lamp(5, 5, 1); lamp(9, 9, 1)");
        edges.of("Promise 4", "Throws `IllegalStateException` if a lamp is there, also itself");
        edges.changesNothing(STATE, "carry(0, 0, 0)", "lamp(0, 0, 1)");
        edges.changesNothing(STATE, "carry(0, 1, 2)", Edges.FURNISHED);
        edges.changesNothing(STATE, "carry(0, 8, 8)", Edges.FURNISHED);
        for (int lamp = 0; lamp <= 3; lamp++) {
            for (String place : new String[] {"0, 0", "11, 0", "0, 11", "11, 11"}) {
                edges.changesNothing(STATE, "carry(" + lamp + ", " + place + ")", Edges.FOUR_LAMPS);
            }
        }
        edges.changesNothing(STATE, "carry(0, 5, 5)", "lamp(0, 0, 1); carry(0, 5, 5)");
        edges.answers(3, "carry(0, 0, 0)", "lamp(0, 0, 1); carry(0, 5, 5)");
        edges.answers(8, "carry(1, 0, 0)", "lamp(0, 0, 1); lamp(11, 11, 1); carry(0, 5, 5)");
        edges.answers(3, "carry(0, 0, 0)", "watcher(0, 0); lamp(5, 5, 1)");
    }

    private void turn() {
        edges.of("Promise 5", "Returns the one before.");
        edges.answers(1, "turn(0, 12)", "lamp(0, 0, 1)");
        edges.answers(12, "turn(0, 1)", "lamp(0, 0, 12)");
        edges.answers(1, "turn(0, 1)", "lamp(0, 0, 1)");
        edges.answers(12, "turn(0, 12)", "lamp(0, 0, 12)");
        edges.answers(12, "turn(0, 1)", "lamp(0, 0, 1); turn(0, 12)");
        edges.answers(4, "turn(3, 5)", Edges.FOUR_LAMPS);
        edges.answers(1, "turn(0, 5)", Edges.FOUR_LAMPS, "turn(3, 7)");
        edges.answers(1, "turn(0, 5)", "lamp(0, 0, 1); !turn(0, 13)");
        edges.of("Promise 5", "- `reach`: its reach from now on");
        for (int reach = 1; reach <= 12; reach++) {
            edges.answers(reach, "about(0, 1)", "lamp(0, 0, 6); turn(0, " + reach + ")");
            edges.answers(reach, "told(0, 0, 1)", "lamp(0, 0, 6); turn(0, " + reach + ")");
        }
        edges.answers(121, "count(3)", "lamp(0, 0, 1); turn(0, 12)");
        edges.answers(3, "count(3)", "lamp(0, 0, 12); turn(0, 1)");
        for (int lamp = 0; lamp <= 3; lamp++) {
            for (int other = 0; other <= 3; other++) {
                int want = other == lamp ? 9 : other + 1;
                edges.answers(want, "about(" + other + ", 1)", Edges.FOUR_LAMPS, "turn(" + lamp + ", 9)");
            }
        }
    }

    private void turnRefused() {
        edges.of("Promise 5", "Throws `IndexOutOfBoundsException` if there is no such lamp");
        edges.changesNothing(INDEX, "turn(0, 1)");
        edges.changesNothing(INDEX, "turn(0, 0)");
        edges.changeNothing(INDEX, "turn(#, 1)", Edges.beyond(0, 1), Edges.FURNISHED);
        edges.changeNothing(INDEX, "turn(#, 13)", Edges.beyond(0, 1), Edges.FURNISHED);
        edges.changeNothing(INDEX, "turn(#, 12)", Edges.beyond(0, 3), Edges.FOUR_LAMPS);
        edges.changeNothing(INDEX, "turn(#, 0)", new int[] {32, -32, 64}, Edges.FURNISHED);
        edges.answers(3, "turn(0, 1)", Edges.FURNISHED);
        edges.answers(2, "turn(1, 1)", Edges.FURNISHED);
        edges.of("Promise 5", "Throws `IllegalArgumentException` if reach is not 1 to 12");
        edges.changeNothing(ARGUMENT, "turn(0, #)", Edges.beyond(1, 12), Edges.FURNISHED);
        edges.changeNothing(ARGUMENT, "turn(3, #)", Edges.beyond(1, 12), Edges.FOUR_LAMPS);
        edges.answers(3, "turn(0, 1)", Edges.FURNISHED);
        edges.answers(3, "turn(0, 12)", Edges.FURNISHED);
    }

    private void watcher() {
        edges.of("Promise 6", "Returns its number.");
        for (int others = 0; others <= 5; others++) {
            edges.answers(others, "watcher(0, 0)", "watcher(11, 11);".repeat(others));
            edges.answers(others, "watcher(11, 11)", "watcher(11, 11);".repeat(others));
            edges.answers(others, "watcher(11, 0)", "watcher(11, 11);".repeat(others), "!watcher(12, 12)");
            edges.answers(others + 1, "count(1)", "watcher(11, 11);".repeat(others + 1));
        }
        edges.answers(0, "watcher(0, 0)", "lamp(0, 0, 12)");
        edges.answers(0, "watcher(0, 0)", "set(0, 0, 3); set(0, 0, 0)");
    }

    private void watcherRefused() {
        edges.of("Promise 6", "Throws `IndexOutOfBoundsException` if x or y is not 0 to 11");
        for (String before : new String[] {"", Edges.FURNISHED, Edges.SIX_WATCHERS}) {
            edges.changeNothing(INDEX, "watcher(#, 0)", Edges.beyond(0, 11), before);
            edges.changeNothing(INDEX, "watcher(11, #)", Edges.beyond(0, 11), before);
            edges.refuseNoPlaces("watcher(#)", before);
        }
        edges.answers(0, "watcher(0, 0)");
        edges.answers(0, "watcher(11, 11)");
        edges.of("Promise 6", "Throws `IllegalStateException` if there are 6, or the cell is not open");
        edges.changesNothing(STATE, "watcher(7, 7)", Edges.SIX_WATCHERS);
        edges.changesNothing(STATE, "watcher(5, 5)", Edges.SIX_WATCHERS);
        edges.changesNothing(STATE, "watcher(7, 7)", Edges.SIX_WATCHERS, "set(7, 7, 1)");
        edges.answers(5, "watcher(5, 5)", "watcher(5, 5);".repeat(5));
        for (int kind = 1; kind <= 3; kind++) {
            edges.changesNothing(STATE, "watcher(11, 11)", Edges.set(11, 11, kind));
            edges.changesNothing(STATE, "watcher(0, 0)", "watcher(0, 0);", Edges.set(0, 0, kind));
            edges.changesNothing(STATE, "watcher(0, 0)", "watcher(5, 5);".repeat(5), Edges.set(0, 0, kind));
            edges.answers(0, "watcher(10, 11)", Edges.set(11, 11, kind));
        }
    }

    private void creep() {
        edges.of("Promise 7", "Returns in how many steps.");
        edges.answers(0, "creep(0, 0, 0)", "watcher(0, 0)");
        edges.answers(0, "creep(0, 11, 11)", "watcher(11, 11); lamp(11, 11, 1); set(11, 11, 1)");
        edges.answers(1, "creep(0, 1, 0)", "watcher(0, 0)");
        edges.answers(2, "creep(0, 1, 1)", "watcher(0, 0)");
        edges.answers(22, "creep(0, 11, 11)", "watcher(0, 0)");
        edges.answers(22, "creep(5, 0, 0)", "watcher(11, 11);".repeat(6));
        edges.answers(24, "creep(0, 2, 0)", "watcher(0, 0);", Edges.column(1, 1), "set(1, 11, 0)");
        edges.answers(13, "count(7)", "watcher(0, 0); creep(0, 11, 0); creep(0, 11, 0); creep(0, 11, 2)");
        edges.answers(35, "seat(0, 0)", "watcher(0, 0); creep(0, 11, 0); creep(0, 11, 0); creep(0, 11, 2)");
        for (int watcher = 0; watcher <= 5; watcher++) {
            for (int other = 0; other <= 5; other++) {
                int want = other == watcher ? 35 : 0;
                edges.answers(want, "seat(" + other + ", 0)", "watcher(0, 0);".repeat(6), "creep(" + watcher + ", 11, 2)");
            }
        }
        edges.answers(1, "told(11, 0, 3)", "watcher(0, 0); watcher(0, 0); creep(0, 11, 0)");
        edges.answers(2, "told(11, 0, 3)", "watcher(0, 0); watcher(11, 0); creep(0, 11, 0)");
    }

    private void creepRefused() {
        edges.of("Promise 7", "Throws `IndexOutOfBoundsException` if there is no such watcher, or x or y is not 0 to 11");
        edges.changesNothing(INDEX, "creep(0, 0, 0)");
        edges.changeNothing(INDEX, "creep(#, 0, 9)", Edges.beyond(0, 1), Edges.FURNISHED);
        edges.changeNothing(INDEX, "creep(#, 1, 2)", Edges.beyond(0, 1), Edges.FURNISHED);
        edges.changeNothing(INDEX, "creep(#, 7, 7)", Edges.beyond(0, 5), Edges.SIX_WATCHERS);
        edges.changeNothing(INDEX, "creep(0, #, 0)", Edges.beyond(0, 11), Edges.FURNISHED);
        edges.changeNothing(INDEX, "creep(1, 0, #)", Edges.beyond(0, 11), Edges.FURNISHED);
        edges.refuseNoPlaces("creep(0, #)", Edges.FURNISHED);
        edges.answers(12, "creep(5, 11, 11)", Edges.SIX_WATCHERS);
        edges.answers(0, "creep(0, 0, 0)", Edges.SIX_WATCHERS);
        edges.of("Promise 7", "Throws `IllegalStateException` if it cannot creep there");
        edges.changesNothing(STATE, "creep(0, 4, 5)", "watcher(0, 5); lamp(5, 5, 1)");
        edges.answers(3, "creep(0, 3, 5)", "watcher(0, 5); lamp(5, 5, 1)");
        edges.changesNothing(STATE, "creep(0, 0, 5)", "watcher(5, 5); lamp(5, 5, 1)");
        edges.answers(5, "creep(0, 0, 5)", "watcher(5, 5); lamp(5, 4, 1)");
        for (int kind = 1; kind <= 3; kind++) {
            edges.changesNothing(STATE, "creep(0, 1, 0)", "watcher(0, 0); creep(0, 2, 0);", Edges.set(1, 0, kind));
            edges.changesNothing(STATE, "creep(0, 6, 0)", "watcher(0, 0); creep(0, 2, 0);", Edges.column(5, kind));
            edges.answers(4, "creep(0, 4, 0)", "watcher(0, 0);", Edges.column(5, kind));
            edges.changesNothing(STATE, "creep(0, 0, 0)", "watcher(0, 0); creep(0, 0, 1);", Edges.set(0, 0, kind));
            edges.changesNothing(STATE, "creep(0, 1, 1)", "watcher(0, 0);", Edges.set(1, 0, kind), Edges.set(0, 1, kind));
        }
        edges.changesNothing(STATE, "creep(0, 0, 0)", "watcher(0, 0); creep(0, 1, 1); lamp(0, 0, 1)");
    }
}
