/** The boundary cases of "What it is" and "Terms". */
final class EdgesOfTerms {
    private static final String TERMS = "Terms";
    private static final String INDEX = Due.INDEX;
    private static final String ARGUMENT = Due.ARGUMENT;
    private static final String STATE = Due.STATE;

    private final Edges edges;

    EdgesOfTerms(Edges edges) {
        this.edges = edges;
    }

    void run() {
        lastCall();
        cells();
        kinds();
        neighbours();
        whatStops();
        lengthOfWay();
        stepsOfWay();
        cornersOfWay();
        cellsThatStop();
        cornersThatStop();
        lamps();
        reach();
        brightness();
        watchers();
        sight();
        hidden();
        creeping();
        creepingAround();
        refusedChangesNothing();
        firstNamed();
    }

    private void lastCall() {
        edges.of("What it is", "An object is used for at most 512 calls after it has been made");
        edges.answers(121, "count(3)", "set(1, 0, 1); set(1, 0, 0);".repeat(255), "lamp(0, 0, 12)");
        edges.answers(255 * 44, "count(7)", "watcher(0, 0);", "creep(0, 11, 11); creep(0, 0, 0);".repeat(255));
        edges.answers(22, "creep(0, 11, 11)", "watcher(0, 0);", "creeps(0, 11, 11);".repeat(510));
        edges.answers(0, "lamp(0, 0, 1)", "!lamp(0, 0, 13);".repeat(511));
        edges.answers(0, "watcher(0, 0)", "!watcher(0, 12);".repeat(511));
        edges.answers(-2, "would(1, 0, 1)", "lamp(0, 0, 2); set(0, 1, 1);", "would(1, 0, 1);".repeat(509));
        edges.answers(1, "advise(0)", "lamp(0, 0, 1);", "advise(0);".repeat(510));
        edges.answers(11, "turn(0, 12)", "lamp(0, 0, 11);", "turn(0, 12); turn(0, 11);".repeat(255));
        edges.answers(5, "carry(0, 5, 5)", "lamp(0, 0, 1);", "carry(0, 6, 6); carry(0, 7, 7);".repeat(255));
    }

    private void cells() {
        edges.of(TERMS, "It has 12 times 12 cells, each with an x and a y, 0 to 11, told as 12 * y + x as well");
        StringBuilder everyKind = new StringBuilder();
        for (int cell = 0; cell < 144; cell++) {
            everyKind.append(Edges.set(cell % 12, cell / 12, 7 * cell / 5 % 4));
        }
        for (int y = 0; y < 12; y++) {
            for (int x = 0; x < 12; x++) {
                String at = "(" + x + ", " + y;
                edges.answers(12 * y + x, "about(0, 0)", "lamp" + at + ", 1)");
                edges.answers(12 * y + x, "seat(0, 0)", "watcher" + at + ")");
                edges.answers(7 * (12 * y + x) / 5 % 4, "told" + at + ", 0)", everyKind.toString());
            }
        }
    }

    private void kinds() {
        edges.of(TERMS, "each is open (0, at first), or has a wall (1), a curtain (2) or a pane (3)");
        edges.answers(0, "count(2)");
        edges.answers(0, "told(0, 0, 0)");
        edges.answers(0, "told(11, 11, 0)");
        for (int kind = 1; kind <= 3; kind++) {
            edges.answers(kind, "told(11, 11, 0)", Edges.set(11, 11, kind));
            edges.answers(0, "told(11, 11, 0)", Edges.set(11, 11, kind), "set(11, 11, 0)");
            edges.answers(1, "count(2)", Edges.set(11, 11, kind));
            edges.answers(144, "count(2)", Edges.all(kind));
        }
    }

    private void neighbours() {
        edges.of(TERMS, "Neighbours of a cell are those beside it (its x or its y differs by 1, the other one is the same).");
        for (int y = 0; y < 12; y++) {
            for (int x = 0; x < 12; x++) {
                String there = "creeps(0, " + x + ", " + y + ")";
                edges.answers(Math.abs(x - 5) + Math.abs(y - 6), there, "watcher(5, 6)");
            }
        }
        edges.answers(12, "creeps(0, 0, 1)", "watcher(11, 0)");
        edges.answers(12, "creeps(0, 11, 0)", "watcher(0, 1)");
        edges.answers(22, "creeps(0, 11, 11)", "watcher(0, 0)");
        edges.answers(-1, "creeps(0, 1, 1)", "watcher(0, 0); set(1, 0, 3); set(0, 1, 3)");
        int[][] litPlus = {{5, 5, 12}, {0, 5, 7}, {11, 5, 7}, {5, 0, 7}, {5, 11, 7}, {0, 0, 4}, {11, 0, 4},
            {0, 11, 4}, {11, 11, 4}};
        for (int[] lamp : litPlus) {
            edges.answers(lamp[2], "count(4)", "lamp(" + lamp[0] + ", " + lamp[1] + ", 1)");
        }
    }

    private void whatStops() {
        edges.of(TERMS,
            "Light is stopped by walls and curtains; sight is stopped by walls alone; nobody walks but on open cells.");
        int[] light = {1, 0, 0, 1};
        int[] sight = {1, 0, 1, 1};
        for (int kind = 0; kind <= 3; kind++) {
            edges.answers(light[kind], "told(6, 0, 2)", "lamp(0, 0, 12);", Edges.set(5, 0, kind));
            edges.answers(sight[kind], "told(11, 5, 4)", "lamp(11, 5, 1); watcher(0, 5);", Edges.set(5, 5, kind));
            edges.answers(kind == 0 ? 1 : -1, "creeps(0, 1, 0)", "watcher(0, 0);", Edges.set(1, 0, kind));
            edges.answers(kind == 0 ? 6 : -1, "creeps(0, 6, 0)", "watcher(0, 0);", Edges.column(5, kind));
        }
    }

    private void lengthOfWay() {
        edges.of(TERMS, "as long as ix is less than nx, or iy less than ny");
        int[][] ways = {
            {0, 0, 0}, {143, 143, 0}, {0, 1, 1}, {1, 0, 1}, {0, 12, 1}, {12, 0, 1}, {0, 11, 11}, {11, 0, 11},
            {0, 132, 11}, {132, 0, 11}, {143, 11, 11}, {143, 132, 11}, {0, 143, 11}, {11, 132, 11},
            {0, 131, 21}, {0, 142, 21}, {143, 12, 21}, {143, 1, 21}, {11, 120, 21}, {132, 10, 21}};
        for (int[] way : ways) {
            edges.answers(way[2], "far(" + way[0] + ", " + way[1] + ")");
        }
    }

    private void stepsOfWay() {
        edges.of(TERMS, "if p is less than q, it goes on by one in x (towards the other cell), and ix is 1 greater");
        goesBy("stops(0, 14)", "1, 0", "0, 1");
        goesBy("stops(14, 0)", "1, 1", "2, 0");
        goesBy("stops(2, 12)", "1, 0", "2, 1");
        goesBy("stops(12, 2)", "1, 1", "0, 0");
        goesBy("stops(0, 25)", "1, 1", "0, 2");
        goesBy("stops(60, 71)", "6, 5", "6, 6");
        edges.of(TERMS, "if p is greater, by one in y, and iy is 1 greater");
        goesBy("stops(0, 25)", "0, 1", "1, 0");
        goesBy("stops(25, 0)", "1, 1", "0, 2");
        goesBy("stops(24, 1)", "0, 1", "1, 2");
        goesBy("stops(1, 24)", "1, 1", "0, 0");
        goesBy("stops(0, 14)", "1, 1", "2, 0");
        goesBy("stops(5, 137)", "5, 6", "6, 6");
    }

    private void goesBy(String stops, String onTheWay, String besideIt) {
        edges.answers(3, stops, "set(" + onTheWay + ", 1)");
        edges.answers(0, stops, "set(" + besideIt + ", 1)");
    }

    private void cornersOfWay() {
        edges.of(TERMS, "if both are the same, it goes on by one in both, and both are 1 greater: then it goes through a corner,"
            + " and the two cells beside this corner are the one by x alone, and the one by y alone.");
        edges.answers(1, "far(0, 13)");
        edges.answers(2, "far(0, 26)");
        edges.answers(3, "far(0, 15)");
        edges.answers(3, "far(0, 37)");
        edges.answers(3, "stops(0, 26)", "set(1, 1, 1)");
        for (String way : new String[] {"stops(0, 15)", "stops(15, 0)"}) {
            edges.answers(3, way, "set(2, 0, 1); set(1, 1, 1)");
            edges.answers(0, way, "set(2, 0, 1); set(0, 1, 1); set(3, 0, 1)");
            edges.answers(0, way, "set(1, 1, 1); set(0, 1, 1); set(3, 0, 1)");
        }
        for (String way : new String[] {"stops(0, 37)", "stops(37, 0)"}) {
            edges.answers(3, way, "set(1, 1, 1); set(0, 2, 1)");
            edges.answers(0, way, "set(1, 0, 1); set(0, 2, 1); set(0, 3, 1)");
            edges.answers(0, way, "set(1, 0, 1); set(1, 1, 1); set(0, 3, 1)");
        }
    }

    private void cellsThatStop() {
        edges.of(TERMS, "It is stopped, if a cell that it comes to, but the last one, stops it");
        for (int at = 0; at <= 11; at++) {
            int want = at == 0 || at == 11 ? 0 : 3;
            edges.answers(want, "stops(60, 71)", Edges.set(at, 5, 1));
            edges.answers(want, "stops(71, 60)", Edges.set(at, 5, 1));
            edges.answers(want, "stops(5, 137)", Edges.set(5, at, 1));
            edges.answers(want, "stops(137, 5)", Edges.set(5, at, 1));
            edges.answers(want, "stops(0, 143)", Edges.set(at, at, 1));
            edges.answers(want, "stops(132, 11)", Edges.set(at, 11 - at, 1));
        }
        edges.answers(3, "stops(0, 131)", "set(10, 10, 1)");
        edges.answers(3, "stops(0, 131)", "set(11, 9, 1); set(10, 10, 1)");
        edges.answers(0, "stops(0, 131)", "set(11, 9, 1)");
        edges.of(TERMS, "The first cell and the last one never stop it.");
        for (int kind = 1; kind <= 2; kind++) {
            edges.answers(0, "stops(0, 0)", Edges.set(0, 0, kind));
            edges.answers(0, "stops(0, 1)", Edges.set(0, 0, kind), Edges.set(1, 0, kind));
            edges.answers(0, "stops(0, 13)", Edges.set(0, 0, kind), Edges.set(1, 1, kind));
            edges.answers(0, "stops(143, 0)", Edges.set(0, 0, kind), Edges.set(11, 11, kind));
            edges.answers(1, "told(11, 0, 2)", "lamp(0, 0, 12);", Edges.set(0, 0, kind), Edges.set(11, 0, kind));
        }
    }

    private void cornersThatStop() {
        edges.of(TERMS, "or both cells beside a corner stop it"
            + " (each by its own kind: a wall and a curtain together stop light, not sight)");
        for (int byX = 0; byX <= 3; byX++) {
            for (int byY = 0; byY <= 3; byY++) {
                boolean light = (byX == 1 || byX == 2) && (byY == 1 || byY == 2);
                int want = (light ? 1 : 0) + (byX == 1 && byY == 1 ? 2 : 0);
                String only = Edges.set(6, 5, byX) + Edges.set(5, 6, byY);
                edges.answers(want, "stops(65, 78)", only);
                edges.answers(want, "stops(78, 65)", only);
                edges.answers(want, "stops(65, 143)", only);
                edges.answers(want, "stops(0, 78)", only);
                String mirrored = Edges.set(4, 5, byX) + Edges.set(5, 6, byY);
                edges.answers(want, "stops(65, 76)", mirrored);
                edges.answers(want, "stops(76, 65)", mirrored);
            }
        }
        edges.answers(0, "stops(0, 26)", "set(1, 0, 1); set(1, 2, 1)");
        edges.answers(0, "stops(0, 26)", "set(1, 0, 1); set(2, 1, 1)");
        edges.answers(3, "stops(0, 26)", "set(2, 1, 1); set(1, 2, 1)");
        edges.answers(3, "stops(0, 26)", "set(1, 0, 1); set(0, 1, 2); set(2, 1, 1); set(1, 2, 1)");
    }

    private void lamps() {
        edges.of(TERMS, "There are at most 4, numbered from 0 in the order of their coming; each is at a cell of any kind,"
            + " no two at one, and reaches 1 to 12 (its reach).");
        edges.answers(0, "lamp(11, 11, 1)");
        edges.answers(1, "lamp(0, 0, 1)", "lamp(11, 11, 1)");
        edges.answers(2, "lamp(0, 0, 1)", "lamp(11, 11, 1); lamp(5, 5, 1)");
        edges.answers(3, "lamp(0, 0, 1)", "lamp(11, 11, 1); lamp(5, 5, 1); lamp(1, 0, 1)");
        edges.answers(STATE, "lamp(5, 5, 1)", Edges.FOUR_LAMPS);
        edges.answers(3, "lamp(0, 0, 1)", "lamp(11, 11, 1); !lamp(11, 11, 2); lamp(5, 5, 1); lamp(1, 0, 1)");
        for (int kind = 0; kind <= 3; kind++) {
            edges.answers(5, "count(3)", Edges.set(5, 5, kind), "lamp(5, 5, 1)");
            edges.answers(5, "count(3)", "lamp(5, 5, 1);", Edges.set(5, 5, kind));
            edges.answers(5, "carry(0, 5, 5)", "lamp(0, 0, 1);", Edges.set(5, 5, kind));
        }
        edges.answers(STATE, "lamp(0, 0, 2)", "lamp(0, 0, 1)");
        edges.answers(STATE, "carry(1, 0, 0)", "lamp(0, 0, 1); lamp(1, 0, 1)");
        edges.answers(1, "about(0, 1)", "lamp(0, 0, 1)");
        edges.answers(12, "about(0, 1)", "lamp(0, 0, 12)");
        edges.answers(ARGUMENT, "lamp(0, 0, 0)");
        edges.answers(ARGUMENT, "lamp(0, 0, 13)");
    }

    private void reach() {
        edges.of(TERMS,
            "A lamp lights a cell, if the sum of the squares of the differences of x and of y is the square of its reach"
            + " or less, and light is not stopped on the straight way from the lamp to it.");
        for (int reach = 1; reach <= 10; reach++) {
            edges.answers(1, "told(" + reach + ", 0, 2)", "lamp(0, 0, " + reach + ")");
            edges.answers(0, "told(" + reach + ", 1, 2)", "lamp(0, 0, " + reach + ")");
            edges.answers(0, "told(" + (reach + 1) + ", 0, 2)", "lamp(0, 0, " + reach + ")");
            edges.answers(1, "told(11, " + (11 - reach) + ", 2)", "lamp(11, 11, " + reach + ")");
            edges.answers(0, "told(11, " + (10 - reach) + ", 2)", "lamp(11, 11, " + reach + ")");
        }
        int[][] litAndDark = {
            {5, 3, 4, 4, 4}, {5, 4, 3, 5, 1}, {10, 6, 8, 6, 9}, {10, 8, 6, 7, 8}, {11, 11, 0, 11, 1},
            {11, 0, 11, 1, 11}, {12, 11, 4, 11, 5}, {12, 4, 11, 5, 11}, {12, 8, 8, 9, 8}, {12, 9, 7, 8, 9}};
        for (int[] r : litAndDark) {
            edges.answers(1, "told(" + r[1] + ", " + r[2] + ", 2)", "lamp(0, 0, " + r[0] + ")");
            edges.answers(0, "told(" + r[3] + ", " + r[4] + ", 2)", "lamp(0, 0, " + r[0] + ")");
        }
        edges.answers(1, "told(1, 0, 2)", "lamp(0, 0, 2); set(1, 0, 1)");
        edges.answers(0, "told(2, 0, 2)", "lamp(0, 0, 2); set(1, 0, 1)");
        edges.answers(1, "told(1, 1, 2)", "lamp(0, 0, 2); set(1, 0, 1)");
        edges.answers(0, "told(1, 1, 2)", "lamp(0, 0, 2); set(1, 0, 1); set(0, 1, 2)");
        edges.answers(1, "told(0, 0, 2)", "lamp(0, 0, 1);", Edges.all(1));
        edges.answers(5, "count(3)", "lamp(5, 5, 12);", Edges.all(1), "set(5, 5, 0)");
        edges.answers(1, "told(4, 4, 2)", "lamp(5, 5, 12);", Edges.all(1), "set(4, 5, 3)");
    }

    private void brightness() {
        edges.of(TERMS, "It gives it the reach less the greater one of both differences.");
        edges.answers(12, "told(0, 0, 1)", "lamp(0, 0, 12)");
        edges.answers(1, "told(11, 0, 1)", "lamp(0, 0, 12)");
        edges.answers(1, "told(0, 11, 1)", "lamp(0, 0, 12)");
        edges.answers(4, "told(8, 8, 1)", "lamp(0, 0, 12)");
        edges.answers(1, "told(4, 11, 1)", "lamp(0, 0, 12)");
        edges.answers(1, "told(3, 4, 1)", "lamp(0, 0, 5)");
        edges.answers(1, "told(4, 3, 1)", "lamp(0, 0, 5)");
        edges.of(TERMS,
            "How bright a cell is: what all lamps that light it give it, added (0 can be given, at the end of the reach);"
            + " it is lit, if some lamp lights it, otherwise dark.");
        edges.answers(0, "told(1, 0, 1)", "lamp(0, 0, 1)");
        edges.answers(1, "told(1, 0, 2)", "lamp(0, 0, 1)");
        edges.answers(0, "told(1, 1, 2)", "lamp(0, 0, 1)");
        edges.answers(3, "count(3)", "lamp(0, 0, 1)");
        edges.answers(0, "told(11, 0, 1)", "lamp(0, 0, 11)");
        edges.answers(1, "told(11, 0, 2)", "lamp(0, 0, 11)");
        edges.answers(0, "told(1, 0, 1)", "lamp(0, 0, 1); lamp(2, 0, 1)");
        edges.answers(2, "told(1, 0, 2)", "lamp(0, 0, 1); lamp(2, 0, 1)");
        edges.answers(45, "told(5, 5, 1)", "lamp(5, 5, 12); lamp(6, 5, 12); lamp(5, 6, 12); lamp(6, 6, 12)");
        edges.answers(0, "told(5, 5, 1)", "lamp(0, 0, 1); lamp(11, 11, 1)");
        edges.answers(1, "seat(0, 3)", "watcher(1, 0); lamp(0, 0, 1)");
        edges.answers(0, "seat(0, 3)", "watcher(1, 1); lamp(0, 0, 1)");
    }

    private void watchers() {
        edges.of(TERMS, "There are at most 6, numbered likewise; each is at a cell; several can be at one;"
            + " they stay there, whatever becomes of it.");
        for (int others = 0; others <= 5; others++) {
            edges.answers(others, "watcher(7, 7)", "watcher(7, 7);".repeat(others));
            edges.answers(others + 1, "told(7, 7, 3)", "watcher(7, 7);".repeat(others + 1));
        }
        edges.answers(STATE, "watcher(7, 7)", "watcher(7, 7);".repeat(6));
        edges.answers(STATE, "watcher(7, 7)", Edges.SIX_WATCHERS);
        edges.answers(1, "watcher(7, 7)", "watcher(7, 7); set(8, 8, 1); !watcher(8, 8)");
        for (int kind = 0; kind <= 3; kind++) {
            edges.answers(91, "seat(0, 0)", "watcher(7, 7);", Edges.set(7, 7, kind));
            edges.answers(1, "told(7, 7, 3)", "watcher(7, 7);", Edges.set(7, 7, kind));
        }
        edges.answers(91, "seat(0, 0)", "watcher(7, 7); lamp(7, 7, 12)");
        edges.answers(1, "count(1)", "watcher(7, 7); lamp(7, 7, 12); set(7, 7, 1)");
    }

    private void sight() {
        edges.of(TERMS,
            "A watcher sees a cell, if it is lit, and sight is not stopped on the straight way from the watcher to it.");
        edges.answers(1, "told(11, 0, 4)", "watcher(0, 0); lamp(11, 0, 1)");
        edges.answers(1, "told(10, 0, 4)", "watcher(0, 0); lamp(11, 0, 1)");
        edges.answers(0, "told(9, 0, 4)", "watcher(0, 0); lamp(11, 0, 1)");
        edges.answers(0, "told(11, 0, 4)", "watcher(0, 0); lamp(11, 0, 1); set(10, 0, 1)");
        edges.answers(1, "told(10, 0, 4)", "watcher(0, 0); lamp(11, 0, 1); set(10, 0, 1)");
        edges.answers(1, "told(11, 0, 4)", "watcher(0, 0); lamp(11, 0, 1); set(10, 0, 2)");
        edges.answers(1, "told(1, 1, 4)", "watcher(0, 0); lamp(1, 1, 1); set(1, 0, 1); set(0, 1, 2)");
        edges.answers(0, "told(1, 1, 4)", "watcher(0, 0); lamp(1, 1, 1); set(1, 0, 1); set(0, 1, 1)");
        edges.of(TERMS, "So it sees its own cell, if this is lit.");
        edges.answers(1, "told(0, 0, 4)", "watcher(0, 0); lamp(1, 0, 1)");
        edges.answers(0, "told(0, 0, 4)", "watcher(0, 0); lamp(2, 0, 1)");
        edges.answers(1, "told(0, 0, 4)", "watcher(0, 0); lamp(0, 0, 1); set(0, 0, 1)");
        edges.answers("true", "sees(0, 0)", "watcher(0, 0); lamp(1, 0, 1)");
        edges.answers("false", "sees(0, 0)", "watcher(0, 0); lamp(2, 0, 1)");
    }

    private void hidden() {
        edges.of(TERMS, "It is hidden, if no other watcher sees its cell (so always in the dark).");
        edges.answers(1, "seat(0, 2)", "watcher(5, 5)");
        edges.answers(1, "seat(0, 2)", "watcher(5, 5); lamp(5, 5, 1)");
        edges.answers(1, "seat(0, 2)", "watcher(5, 5); watcher(5, 5)");
        edges.answers(0, "seat(0, 2)", "watcher(5, 5); watcher(5, 5); lamp(5, 5, 1)");
        edges.answers(0, "seat(0, 2)", "watcher(5, 5); watcher(11, 5); lamp(4, 5, 1)");
        edges.answers(1, "seat(0, 2)", "watcher(5, 5); watcher(11, 5); lamp(3, 5, 1)");
        edges.answers(1, "seat(1, 2)", "watcher(5, 5); watcher(11, 5); lamp(4, 5, 1)");
        edges.answers(1, "seat(0, 2)", "watcher(5, 5); watcher(11, 5); lamp(4, 5, 1); set(6, 5, 1)");
        edges.answers(0, "seat(0, 2)", "watcher(5, 5); watcher(11, 5); lamp(4, 5, 1); set(6, 5, 2)");
        edges.answers(0, "seat(5, 2)", Edges.SIX_WATCHERS, "lamp(5, 5, 1)");
        edges.answers(6, "count(5)", Edges.SIX_WATCHERS);
        for (int seer = 1; seer <= 5; seer++) {
            String others = "watcher(11, 11);".repeat(seer - 1) + "watcher(0, 0);" + "watcher(11, 11);".repeat(5 - seer);
            String walled = "lamp(0, 0, 1); set(1, 0, 1); set(0, 1, 1);";
            edges.answers(0, "seat(0, 2)", walled, "watcher(0, 0);", others);
            edges.answers(0, "seat(5, 2)", walled, others, "watcher(0, 0)");
            edges.answers(1, "seat(0, 2)", walled, "watcher(0, 0);", others.replace("(0, 0)", "(11, 11)"));
            edges.answers(1, "seat(5, 2)", walled, others.replace("(0, 0)", "(11, 11)"), "watcher(0, 0)");
        }
    }

    private void creeping() {
        edges.of(TERMS, "Creeping: from cell to cell, each a neighbour, open and dark, also the last one, but not the first one;"
            + " no steps lead to where it is.");
        edges.answers(1, "creeps(0, 1, 0)", "watcher(0, 0)");
        edges.answers(-1, "creeps(0, 1, 0)", "watcher(0, 0); lamp(2, 0, 1)");
        edges.answers(-1, "creeps(0, 2, 0)", "watcher(0, 0); lamp(2, 0, 1)");
        edges.answers(1, "creeps(0, 0, 1)", "watcher(0, 0); lamp(1, 0, 1)");
        edges.answers(-1, "creeps(0, 0, 1)", "watcher(0, 0); lamp(0, 0, 1)");
        edges.answers(9, "creeps(0, 5, 0)", "watcher(0, 0); lamp(3, 0, 1)");
        for (int kind = 1; kind <= 3; kind++) {
            String its = Edges.set(0, 0, kind);
            edges.answers(-1, "creeps(0, 1, 0)", "watcher(0, 0);", Edges.set(1, 0, kind));
            edges.answers(4, "creeps(0, 2, 0)", "watcher(0, 0);", Edges.set(1, 0, kind));
            edges.answers(-1, "creeps(0, 5, 5)", "watcher(0, 0);", Edges.set(1, 0, kind), Edges.set(0, 1, kind));
            edges.answers(1, "creeps(0, 1, 0)", "watcher(0, 0);", its);
            edges.answers(22, "creeps(0, 11, 11)", "watcher(0, 0);", its);
            edges.answers(0, "creeps(0, 0, 0)", "watcher(0, 0);", its);
            edges.answers(0, "creep(0, 0, 0)", "watcher(0, 0);", its);
            edges.answers(-1, "creeps(0, 0, 0)", "watcher(0, 0); creep(0, 1, 0);", its);
        }
        edges.answers(0, "creeps(0, 0, 0)", "watcher(0, 0)");
        edges.answers(0, "creeps(0, 0, 0)", "watcher(0, 0); lamp(0, 0, 12)");
        edges.answers(0, "creep(0, 0, 0)", "watcher(0, 0); lamp(0, 0, 12)");
        edges.answers(-1, "creeps(0, 0, 0)", "watcher(0, 0); creep(0, 1, 1); lamp(0, 0, 1)");
    }

    /** Rows of walls with gaps to the right and left in turn make the yard's longest lane. */
    private void creepingAround() {
        StringBuilder lane = new StringBuilder();
        for (int y = 1; y <= 11; y += 2) {
            lane.append(Edges.row(y, 1)).append(Edges.set(y % 4 == 1 ? 11 : 0, y, 0));
        }
        edges.answers(6 * 11 + 5 * 2 + 1, "creep(0, 0, 11)", lane.toString(), "watcher(0, 0)");
        edges.answers(77, "creeps(0, 0, 0)", lane.toString(), "watcher(0, 11)");
        edges.answers(-1, "creeps(0, 0, 11)", lane.toString(), "watcher(0, 0); set(11, 1, 3)");
        edges.answers(-1, "creeps(0, 0, 11)", lane.toString(), "watcher(0, 0); lamp(1, 11, 1)");
    }

    private void refusedChangesNothing() {
        edges.of(TERMS, "A method that throws an exception changes nothing.");
        String[] byIndex = {
            "set(12, 0, 1)", "lamp(0, 12, 1)", "carry(2, 5, 5)", "carry(0, 12, 0)", "turn(2, 5)", "watcher(-1, 0)",
            "creep(2, 0, 9)", "creep(0, 0, 12)", "told(0, 0, 5)", "about(2, 0)", "seat(2, 0)", "sees(0, 2)",
            "count(8)", "far(144, 0)", "stops(0, 144)", "creeps(2, 0, 9)", "would(12, 0, 1)", "advise(2)"};
        for (String call : byIndex) {
            edges.changesNothing(INDEX, call, Edges.FURNISHED);
        }
        for (String call : new String[] {"set(5, 5, 4)", "lamp(5, 5, 13)", "turn(0, 0)", "would(2, 2, -1)"}) {
            edges.changesNothing(ARGUMENT, call, Edges.FURNISHED);
        }
        String[] byState = {"lamp(1, 2, 1)", "carry(0, 8, 8)", "carry(0, 1, 2)", "watcher(2, 2)", "creep(0, 1, 2)",
            "creep(1, 0, 0)"};
        for (String call : byState) {
            edges.changesNothing(STATE, call, Edges.FURNISHED);
        }
        edges.changesNothing(STATE, "lamp(5, 5, 12)", Edges.FULL);
        edges.changesNothing(STATE, "watcher(5, 7)", Edges.FULL);
    }

    private void firstNamed() {
        edges.of(TERMS, "If several exceptions apply, the one that is named first is thrown.");
        String[] byIndex = {
            "set(12, 0, 4)", "set(0, -1, -1)", "lamp(12, 0, 0)", "lamp(0, -1, 13)", "lamp(12, 0, 1)", "lamp(-1, 12, 13)",
            "carry(4, 0, 0)", "carry(-1, 11, 11)", "turn(4, 0)", "turn(-1, 13)", "watcher(12, 0)", "watcher(0, -1)",
            "creep(6, 0, 0)", "creep(-1, 0, 0)", "creep(0, 12, 0)", "would(12, 0, 4)", "would(0, -1, -1)"};
        for (String call : byIndex) {
            edges.changesNothing(INDEX, call, Edges.FULL);
        }
        for (String call : new String[] {"lamp(0, 0, 0)", "lamp(0, 0, 13)", "lamp(5, 5, 0)", "lamp(5, 5, 13)"}) {
            edges.changesNothing(ARGUMENT, call, Edges.FULL);
        }
        edges.changesNothing(ARGUMENT, "lamp(0, 0, 13)", "lamp(0, 0, 1)");
        edges.changesNothing(STATE, "lamp(0, 0, 1)", Edges.FULL);
        edges.changesNothing(STATE, "watcher(1, 1)", Edges.FULL, "set(1, 1, 1)");
    }
}
