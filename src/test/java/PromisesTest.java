/** Each promise with answers counted by hand from the document. */
public final class PromisesTest {
    private static final Due due = new Due("PromisesTest");
    private static final int[] OUTSIDE = {-1, 12, Integer.MIN_VALUE, Integer.MAX_VALUE};

    public static void main(String[] args) {
        newObject();
        set();
        setSteersLight();
        lamp();
        carry();
        turn();
        watcher();
        creep();
        creepRefused();
        told();
        toldSees();
        about();
        seat();
        sees();
        count();
        far();
        stops();
        stopsAtCorners();
        creeps();
        would();
        advise();
        darkest();
        mean();
        digest();
        due.end();
    }

    private static ShadowWalls withLamp(int x, int y, int reach) {
        ShadowWalls yard = new ShadowWalls();
        yard.lamp(x, y, reach);
        return yard;
    }

    private static ShadowWalls allOfKind(int kind) {
        ShadowWalls yard = new ShadowWalls();
        for (int cell = 0; cell < 144; cell++) {
            yard.set(cell % 12, cell / 12, kind);
        }
        return yard;
    }

    private static void newObject() {
        ShadowWalls yard = new ShadowWalls();
        for (int what = 0; what <= 7; what++) {
            int w = what;
            due.is("1: count(" + w + ") of a new yard", 0, () -> yard.count(w));
        }
        for (int cell = 0; cell < 144; cell++) {
            int x = cell % 12;
            int y = cell / 12;
            for (int what = 0; what <= 4; what++) {
                int w = what;
                due.is("1: told(" + x + ", " + y + ", " + w + ") of a new yard", 0, () -> new ShadowWalls().told(x, y, w));
            }
        }
        long d = 1447L;
        for (int zero = 0; zero < 8 + 2 * 144; zero++) {
            d = d * 31;
        }
        due.is("1: digest() of a new yard", d, yard::digest);
        yard.set(0, 0, 1);
        due.is("1: a second yard is its own", 0, () -> new ShadowWalls().told(0, 0, 0));
    }

    private static void set() {
        ShadowWalls yard = new ShadowWalls();
        due.is("2: set(0, 0, 3)", 0, () -> yard.set(0, 0, 3));
        due.is("2: set(0, 0, 2)", 3, () -> yard.set(0, 0, 2));
        due.is("2: set(0, 0, 1)", 2, () -> yard.set(0, 0, 1));
        due.is("2: set(0, 0, 0)", 1, () -> yard.set(0, 0, 0));
        due.is("2: set(11, 11, 3)", 0, () -> yard.set(11, 11, 3));
        due.is("2: set(2, 7, 1)", 0, () -> yard.set(2, 7, 1));
        due.is("2: x and y keep their places", 1, () -> yard.told(2, 7, 0));
        due.is("2: x and y are not mixed up", 0, () -> yard.told(7, 2, 0));
        for (int out : OUTSIDE) {
            due.isRefused("2: set(" + out + ", 0, 1)", Due.INDEX, yard, () -> yard.set(out, 0, 1));
            due.isRefused("2: set(0, " + out + ", 1)", Due.INDEX, yard, () -> yard.set(0, out, 1));
            due.isRefused("2: set(" + out + ", 0, 4)", Due.INDEX, yard, () -> yard.set(out, 0, 4));
        }
        due.isRefused("2: set(0, 0, -1)", Due.ARGUMENT, yard, () -> yard.set(0, 0, -1));
        due.isRefused("2: set(0, 0, 4)", Due.ARGUMENT, yard, () -> yard.set(0, 0, 4));
    }

    private static void setSteersLight() {
        ShadowWalls yard = withLamp(0, 0, 4);
        due.is("2: lit behind an open cell", 1, () -> yard.told(2, 0, 2));
        yard.set(1, 0, 1);
        due.is("2: dark behind a wall", 0, () -> yard.told(2, 0, 2));
        due.is("2: a wall itself is lit", 1, () -> yard.told(1, 0, 2));
        yard.set(1, 0, 2);
        due.is("2: dark behind a curtain", 0, () -> yard.told(2, 0, 2));
        yard.set(1, 0, 3);
        due.is("2: lit behind a pane", 1, () -> yard.told(2, 0, 2));
        yard.watcher(5, 5);
        yard.set(5, 5, 1);
        due.is("2: a watcher stays whatever becomes of its cell", 65, () -> yard.seat(0, 0));
        yard.set(0, 0, 1);
        due.is("2: a lamp in a wall shines", 1, () -> yard.told(2, 0, 2));
    }

    private static void lamp() {
        ShadowWalls yard = new ShadowWalls();
        for (int out : OUTSIDE) {
            due.isRefused("3: lamp(" + out + ", 0, 1)", Due.INDEX, yard, () -> yard.lamp(out, 0, 1));
            due.isRefused("3: lamp(0, " + out + ", 1)", Due.INDEX, yard, () -> yard.lamp(0, out, 1));
        }
        due.isRefused("3: lamp(0, 0, 0)", Due.ARGUMENT, yard, () -> yard.lamp(0, 0, 0));
        due.isRefused("3: lamp(0, 0, 13)", Due.ARGUMENT, yard, () -> yard.lamp(0, 0, 13));
        due.isRefused("3: the index comes first", Due.INDEX, yard, () -> yard.lamp(12, 0, 0));
        yard.set(3, 3, 1);
        due.is("3: first lamp, in a wall", 0, () -> yard.lamp(3, 3, 1));
        due.is("3: it lights at once", 5, () -> yard.count(3));
        due.isRefused("3: a lamp is there", Due.STATE, yard, () -> yard.lamp(3, 3, 2));
        due.isRefused("3: reach ahead of a lamp there", Due.ARGUMENT, yard, () -> yard.lamp(3, 3, 0));
        due.is("3: second lamp", 1, () -> yard.lamp(0, 0, 1));
        due.is("3: third lamp", 2, () -> yard.lamp(11, 11, 1));
        due.is("3: fourth lamp", 3, () -> yard.lamp(11, 0, 12));
        due.isRefused("3: there are 4", Due.STATE, yard, () -> yard.lamp(7, 7, 1));
        due.isRefused("3: reach ahead of four", Due.ARGUMENT, yard, () -> yard.lamp(7, 7, 13));
        due.isRefused("3: index ahead of four", Due.INDEX, yard, () -> yard.lamp(7, 12, 13));
    }

    private static void carry() {
        ShadowWalls yard = withLamp(0, 0, 1);
        due.is("4: three cells in the corner", 3, () -> yard.count(3));
        due.is("4: carry to the middle", 5, () -> yard.carry(0, 5, 5));
        due.is("4: its cell", 65, () -> yard.about(0, 0));
        due.is("4: dark where it was", 0, () -> yard.told(0, 0, 2));
        yard.lamp(9, 9, 1);
        due.is("4: all lamps' cells, each once", 8, () -> yard.carry(1, 6, 5));
        due.isRefused("4: to itself", Due.STATE, yard, () -> yard.carry(0, 5, 5));
        due.isRefused("4: to another lamp", Due.STATE, yard, () -> yard.carry(0, 6, 5));
        due.isRefused("4: no such lamp", Due.INDEX, yard, () -> yard.carry(2, 0, 0));
        due.isRefused("4: no such lamp ahead of a lamp there", Due.INDEX, yard, () -> yard.carry(2, 6, 5));
        due.isRefused("4: lamp -1", Due.INDEX, yard, () -> yard.carry(-1, 0, 0));
        for (int out : OUTSIDE) {
            due.isRefused("4: carry(0, " + out + ", 0)", Due.INDEX, yard, () -> yard.carry(0, out, 0));
            due.isRefused("4: carry(0, 0, " + out + ")", Due.INDEX, yard, () -> yard.carry(0, 0, out));
        }
        yard.set(0, 0, 1);
        due.is("4: into a wall", 8, () -> yard.carry(0, 0, 0));
    }

    private static void turn() {
        ShadowWalls yard = withLamp(0, 0, 1);
        due.is("5: turn to 12", 1, () -> yard.turn(0, 12));
        due.is("5: it lights further", 121, () -> yard.count(3));
        due.is("5: turn to 2", 12, () -> yard.turn(0, 2));
        due.is("5: it lights less far", 6, () -> yard.count(3));
        due.is("5: turn to the same", 2, () -> yard.turn(0, 2));
        due.isRefused("5: reach 0", Due.ARGUMENT, yard, () -> yard.turn(0, 0));
        due.isRefused("5: reach 13", Due.ARGUMENT, yard, () -> yard.turn(0, 13));
        due.isRefused("5: no such lamp", Due.INDEX, yard, () -> yard.turn(1, 1));
        due.isRefused("5: lamp -1", Due.INDEX, yard, () -> yard.turn(-1, 1));
        due.isRefused("5: the index comes first", Due.INDEX, yard, () -> yard.turn(1, 0));
    }

    private static void watcher() {
        ShadowWalls yard = withLamp(4, 4, 1);
        for (int kind = 1; kind <= 3; kind++) {
            yard.set(0, 0, kind);
            due.isRefused("6: a cell of kind " + kind, Due.STATE, yard, () -> yard.watcher(0, 0));
        }
        for (int out : OUTSIDE) {
            due.isRefused("6: watcher(" + out + ", 0)", Due.INDEX, yard, () -> yard.watcher(out, 0));
            due.isRefused("6: watcher(0, " + out + ")", Due.INDEX, yard, () -> yard.watcher(0, out));
        }
        for (int number = 0; number < 6; number++) {
            due.is("6: watcher " + number + ", at a lamp and at one cell", number, () -> yard.watcher(4, 4));
        }
        due.is("6: six at it", 6, () -> yard.told(4, 4, 3));
        due.isRefused("6: there are 6", Due.STATE, yard, () -> yard.watcher(5, 5));
        due.isRefused("6: the index comes first", Due.INDEX, yard, () -> yard.watcher(12, 5));
    }

    private static void creep() {
        ShadowWalls yard = new ShadowWalls();
        for (int y = 0; y <= 10; y++) {
            yard.set(1, y, 3);
        }
        yard.watcher(0, 0);
        due.is("7: round the pane", 24, () -> yard.creep(0, 2, 0));
        due.is("7: it is there then", 2, () -> yard.seat(0, 0));
        due.is("7: to where it is", 0, () -> yard.creep(0, 2, 0));
        due.is("7: and back", 24, () -> yard.creep(0, 0, 0));
        due.is("7: the shortest way", 5, () -> yard.creep(0, 0, 5));
        due.is("7: steps in all", 53, () -> yard.count(7));
        yard.watcher(0, 5);
        due.is("7: to another watcher's cell", 3, () -> yard.creep(0, 0, 8));
        due.is("7: the other one keeps still", 60, () -> yard.seat(1, 0));
        due.is("7: to where somebody is", 3, () -> yard.creep(0, 0, 5));
        due.is("7: both are there", 2, () -> yard.told(0, 5, 3));
    }

    private static void creepRefused() {
        ShadowWalls yard = withLamp(5, 5, 1);
        yard.watcher(5, 5);
        due.is("7: to its own lit cell", 0, () -> yard.creep(0, 5, 5));
        due.isRefused("7: shut in by light", Due.STATE, yard, () -> yard.creep(0, 0, 0));
        due.isRefused("7: into the light", Due.STATE, yard, () -> yard.creep(0, 5, 4));
        due.isRefused("7: no such watcher", Due.INDEX, yard, () -> yard.creep(1, 5, 5));
        due.isRefused("7: watcher -1", Due.INDEX, yard, () -> yard.creep(-1, 5, 5));
        for (int out : OUTSIDE) {
            due.isRefused("7: creep(0, " + out + ", 5)", Due.INDEX, yard, () -> yard.creep(0, out, 5));
            due.isRefused("7: creep(0, 5, " + out + ")", Due.INDEX, yard, () -> yard.creep(0, 5, out));
        }
        yard.carry(0, 6, 6);
        due.isRefused("7: from the dark into the light", Due.STATE, yard, () -> yard.creep(0, 6, 5));
        yard.carry(0, 5, 4);
        due.is("7: out of a lit cell", 1, () -> yard.creep(0, 5, 6));
        for (int kind = 1; kind <= 3; kind++) {
            yard.set(5, 7, kind);
            due.isRefused("7: into kind " + kind, Due.STATE, yard, () -> yard.creep(0, 5, 7));
        }
        yard.set(5, 6, 1);
        due.is("7: out of a wall", 1, () -> yard.creep(0, 4, 6));
        due.isRefused("7: back into it", Due.STATE, yard, () -> yard.creep(0, 5, 6));
    }

    private static void told() {
        ShadowWalls yard = withLamp(5, 5, 5);
        due.is("8: at the lamp", 5, () -> yard.told(5, 5, 1));
        due.is("8: by the greater difference", 3, () -> yard.told(7, 6, 1));
        due.is("8: by the greater difference, y", 3, () -> yard.told(6, 3, 1));
        due.is("8: just in reach, 3 and 4", 1, () -> yard.told(8, 9, 1));
        due.is("8: out of reach, 4 and 4", 0, () -> yard.told(9, 9, 2));
        due.is("8: lit with 0", 0, () -> yard.told(10, 5, 1));
        due.is("8: lit with 0 is lit", 1, () -> yard.told(10, 5, 2));
        due.is("8: dark", 0, () -> yard.told(11, 5, 2));
        yard.lamp(7, 5, 3);
        due.is("8: both lamps added", 4 + 2, () -> yard.told(6, 5, 1));
        due.is("8: two lamps", 2, () -> yard.told(6, 5, 2));
        yard.set(6, 5, 2);
        due.is("8: kind", 2, () -> yard.told(6, 5, 0));
        due.is("8: a curtain is lit from both sides", 2, () -> yard.told(6, 5, 2));
        due.is("8: behind it one lamp", 3, () -> yard.told(7, 5, 1));
        for (int what : new int[] {-1, 5, Integer.MIN_VALUE, Integer.MAX_VALUE}) {
            due.isRefused("8: told(0, 0, " + what + ")", Due.INDEX, yard, () -> yard.told(0, 0, what));
        }
        for (int out : OUTSIDE) {
            due.isRefused("8: told(" + out + ", 0, 0)", Due.INDEX, yard, () -> yard.told(out, 0, 0));
            due.isRefused("8: told(0, " + out + ", 0)", Due.INDEX, yard, () -> yard.told(0, out, 0));
        }
    }

    private static void toldSees() {
        ShadowWalls yard = withLamp(5, 5, 1);
        yard.watcher(0, 5);
        yard.watcher(5, 5);
        yard.watcher(5, 5);
        due.is("8: watchers at it", 2, () -> yard.told(5, 5, 3));
        due.is("8: watchers at another", 1, () -> yard.told(0, 5, 3));
        due.is("8: nobody there", 0, () -> yard.told(1, 5, 3));
        due.is("8: seen by all", 3, () -> yard.told(5, 5, 4));
        due.is("8: nobody sees in the dark", 0, () -> yard.told(0, 5, 4));
        yard.set(3, 5, 1);
        due.is("8: seen by those within", 2, () -> yard.told(5, 5, 4));
        yard.set(3, 5, 2);
        due.is("8: seen through a curtain", 3, () -> yard.told(5, 5, 4));
    }

    private static void about() {
        ShadowWalls yard = withLamp(0, 0, 1);
        yard.lamp(2, 0, 1);
        due.is("9: cell", 0, () -> yard.about(0, 0));
        due.is("9: cell of the other", 2, () -> yard.about(1, 0));
        due.is("9: reach", 1, () -> yard.about(0, 1));
        due.is("9: lights", 3, () -> yard.about(0, 2));
        due.is("9: alone", 2, () -> yard.about(0, 3));
        due.is("9: the other lights", 4, () -> yard.about(1, 2));
        due.is("9: the other alone", 3, () -> yard.about(1, 3));
        due.is("9: carried down", 8, () -> yard.carry(1, 4, 7));
        due.is("9: cell in its row", 88, () -> yard.about(1, 0));
        due.isRefused("9: no such lamp", Due.INDEX, yard, () -> yard.about(2, 0));
        due.isRefused("9: lamp -1", Due.INDEX, yard, () -> yard.about(-1, 0));
        due.isRefused("9: what 4", Due.INDEX, yard, () -> yard.about(0, 4));
        due.isRefused("9: what -1", Due.INDEX, yard, () -> yard.about(0, -1));
        due.isRefused("9: none at all", Due.INDEX, new ShadowWalls(), () -> new ShadowWalls().about(0, 0));
    }

    private static void seat() {
        ShadowWalls yard = withLamp(5, 5, 1);
        yard.watcher(0, 5);
        yard.watcher(5, 5);
        yard.watcher(5, 4);
        due.is("10: cell", 60, () -> yard.seat(0, 0));
        due.is("10: sees all lit cells", 5, () -> yard.seat(0, 1));
        due.is("10: hidden in the dark", 1, () -> yard.seat(0, 2));
        due.is("10: its cell is dark", 0, () -> yard.seat(0, 3));
        due.is("10: sees both others", 2, () -> yard.seat(0, 4));
        due.is("10: not hidden in the light", 0, () -> yard.seat(1, 2));
        due.is("10: its cell is lit", 1, () -> yard.seat(1, 3));
        due.is("10: does not count itself", 1, () -> yard.seat(1, 4));
        yard.set(4, 5, 1);
        due.is("10: past the wall", 3, () -> yard.seat(0, 1));
        due.is("10: sees the one beside the wall", 1, () -> yard.seat(0, 4));
        yard.set(4, 5, 2);
        due.is("10: through the curtain", 5, () -> yard.seat(0, 1));
        ShadowWalls lonely = withLamp(5, 5, 1);
        lonely.watcher(5, 5);
        due.is("10: nobody else sees it in the light", 1, () -> lonely.seat(0, 2));
        lonely.watcher(5, 5);
        due.is("10: another at its lit cell sees it", 0, () -> lonely.seat(0, 2));
        lonely.carry(0, 0, 0);
        due.is("10: another at its dark cell does not", 1, () -> lonely.seat(0, 2));
        due.isRefused("10: no such watcher", Due.INDEX, yard, () -> yard.seat(3, 0));
        due.isRefused("10: watcher -1", Due.INDEX, yard, () -> yard.seat(-1, 0));
        due.isRefused("10: what 5", Due.INDEX, yard, () -> yard.seat(0, 5));
        due.isRefused("10: what -1", Due.INDEX, yard, () -> yard.seat(0, -1));
    }

    private static void sees() {
        ShadowWalls yard = withLamp(9, 9, 1);
        yard.watcher(0, 9);
        yard.watcher(9, 9);
        due.is("11: from the dark into the light", true, () -> yard.sees(0, 1));
        due.is("11: not from the light into the dark", false, () -> yard.sees(1, 0));
        due.is("11: itself in the light", true, () -> yard.sees(1, 1));
        due.is("11: itself in the dark", false, () -> yard.sees(0, 0));
        yard.set(4, 9, 1);
        due.is("11: not through a wall", false, () -> yard.sees(0, 1));
        yard.set(4, 9, 3);
        due.is("11: through a pane", true, () -> yard.sees(0, 1));
        yard.set(0, 9, 1);
        yard.set(9, 9, 1);
        due.is("11: from a wall into a wall", true, () -> yard.sees(0, 1));
        due.isRefused("11: no such second", Due.INDEX, yard, () -> yard.sees(0, 2));
        due.isRefused("11: no such first", Due.INDEX, yard, () -> yard.sees(2, 0));
        due.isRefused("11: second -1", Due.INDEX, yard, () -> yard.sees(0, -1));
        due.isRefused("11: first -1", Due.INDEX, yard, () -> yard.sees(-1, 0));
    }

    private static void count() {
        ShadowWalls yard = withLamp(5, 5, 1);
        due.is("12: lamps", 1, () -> yard.count(0));
        due.is("12: lit cells", 5, () -> yard.count(3));
        due.is("12: edges round a plus", 12, () -> yard.count(4));
        due.is("12: brightness of all", 1, () -> yard.count(6));
        yard.carry(0, 0, 0);
        due.is("12: edges in a corner", 4, () -> yard.count(4));
        yard.carry(0, 0, 5);
        due.is("12: edges at the left side", 7, () -> yard.count(4));
        yard.carry(0, 11, 5);
        due.is("12: edges at the right side", 7, () -> yard.count(4));
        yard.carry(0, 5, 11);
        due.is("12: edges at the lower side", 7, () -> yard.count(4));
        yard.turn(0, 2);
        due.is("12: brightness at the lower side", 2 + 5, () -> yard.count(6));
        yard.watcher(5, 11);
        yard.watcher(5, 11);
        yard.watcher(0, 0);
        due.is("12: watchers", 3, () -> yard.count(1));
        due.is("12: hidden watchers", 1, () -> yard.count(5));
        yard.set(0, 0, 1);
        yard.set(1, 0, 2);
        yard.set(2, 0, 3);
        due.is("12: cells not open", 3, () -> yard.count(2));
        yard.creep(2, 0, 2);
        yard.creep(2, 0, 1);
        due.is("12: steps crept", 3, () -> yard.count(7));
        for (int what : new int[] {-1, 8, Integer.MIN_VALUE, Integer.MAX_VALUE}) {
            due.isRefused("12: count(" + what + ")", Due.INDEX, yard, () -> yard.count(what));
        }
    }

    private static void far() {
        ShadowWalls yard = new ShadowWalls();
        int[][] ways = {
            {0, 0, 0}, {0, 1, 1}, {0, 12, 1}, {0, 13, 1}, {0, 11, 11}, {0, 132, 11}, {0, 143, 11},
            {143, 0, 11}, {11, 132, 11}, {0, 14, 3}, {0, 25, 3}, {25, 0, 3}, {0, 15, 3}, {0, 26, 2},
            {0, 27, 5}, {0, 23, 11}, {0, 35, 13}};
        for (int[] w : ways) {
            due.is("13: far(" + w[0] + ", " + w[1] + ")", w[2], () -> yard.far(w[0], w[1]));
        }
        for (int out : new int[] {-1, 144, Integer.MIN_VALUE, Integer.MAX_VALUE}) {
            due.isRefused("13: far(" + out + ", 0)", Due.INDEX, yard, () -> yard.far(out, 0));
            due.isRefused("13: far(0, " + out + ")", Due.INDEX, yard, () -> yard.far(0, out));
        }
    }

    private static void stops() {
        ShadowWalls yard = new ShadowWalls();
        due.is("14: open", 0, () -> yard.stops(60, 71));
        int[] stopped = {0, 3, 1, 0};
        for (int kind = 0; kind <= 3; kind++) {
            int k = kind;
            yard.set(5, 5, kind);
            due.is("14: kind " + k + " on the way", stopped[k], () -> yard.stops(60, 71));
            due.is("14: kind " + k + " on the way back", stopped[k], () -> yard.stops(71, 60));
            due.is("14: kind " + k + " on the way down", stopped[k], () -> yard.stops(5, 137));
            due.is("14: kind " + k + " at the first cell", 0, () -> yard.stops(65, 71));
            due.is("14: kind " + k + " at the last cell", 0, () -> yard.stops(60, 65));
            due.is("14: kind " + k + " at both", 0, () -> yard.stops(65, 65));
            due.is("14: kind " + k + " off the way", 0, () -> yard.stops(48, 59));
        }
        yard.set(5, 5, 2);
        yard.set(6, 5, 1);
        due.is("14: a curtain and then a wall", 3, () -> yard.stops(60, 71));
        for (int out : new int[] {-1, 144, Integer.MIN_VALUE, Integer.MAX_VALUE}) {
            due.isRefused("14: stops(" + out + ", 0)", Due.INDEX, yard, () -> yard.stops(out, 0));
            due.isRefused("14: stops(0, " + out + ")", Due.INDEX, yard, () -> yard.stops(0, out));
        }
    }

    /** The way from 65 to 78 goes through one corner, which 66 and 77 lie beside. */
    private static void stopsAtCorners() {
        int[][] stopped = {{0, 0, 0, 0}, {0, 3, 1, 0}, {0, 1, 1, 0}, {0, 0, 0, 0}};
        for (int byX = 0; byX <= 3; byX++) {
            for (int byY = 0; byY <= 3; byY++) {
                ShadowWalls yard = new ShadowWalls();
                yard.set(6, 5, byX);
                yard.set(5, 6, byY);
                String kinds = "kinds " + byX + " and " + byY + " beside a corner";
                int want = stopped[byX][byY];
                due.is("14: " + kinds, want, () -> yard.stops(65, 78));
                due.is("14: " + kinds + ", back", want, () -> yard.stops(78, 65));
                due.is("14: " + kinds + ", further", want, () -> yard.stops(52, 91));
            }
        }
        stopsAtOtherCorners();
        ShadowWalls late = new ShadowWalls();
        late.set(2, 0, 1);
        late.set(1, 1, 1);
        due.is("14: from 0 to 15 the corner lies between 1 and 14", 3, () -> late.stops(0, 15));
        late.set(2, 0, 0);
        due.is("14: one beside a corner stops nothing", 0, () -> late.stops(0, 15));
    }

    /** From 65 down to the left, to 76, the corner has 64 and 77 beside it. */
    private static void stopsAtOtherCorners() {
        ShadowWalls yard = new ShadowWalls();
        yard.set(4, 5, 1);
        due.is("14: one beside a corner to the left", 0, () -> yard.stops(65, 76));
        yard.set(5, 6, 1);
        due.is("14: both beside a corner to the left", 3, () -> yard.stops(65, 76));
        due.is("14: both beside a corner to the right, back", 3, () -> yard.stops(76, 65));
        due.is("14: the same ones on a longer way", 3, () -> yard.stops(54, 87));
        yard.set(4, 5, 2);
        due.is("14: wall and curtain stop light, not sight", 1, () -> yard.stops(65, 76));
        due.is("14: they lie beside no corner of the other diagonal", 0, () -> yard.stops(52, 65));
    }

    private static void creeps() {
        ShadowWalls yard = withLamp(5, 5, 1);
        yard.watcher(0, 5);
        due.is("15: there", 0, () -> yard.creeps(0, 0, 5));
        due.is("15: straight", 3, () -> yard.creeps(0, 3, 5));
        due.is("15: round the light", 14, () -> yard.creeps(0, 11, 4));
        due.is("15: past the light in its own row", 11, () -> yard.creeps(0, 7, 5));
        due.is("15: into the light", -1, () -> yard.creeps(0, 4, 5));
        due.is("15: nothing is crept", 60, () -> yard.seat(0, 0));
        for (int kind = 1; kind <= 3; kind++) {
            for (int y = 0; y < 12; y++) {
                yard.set(2, y, kind);
            }
            due.is("15: into kind " + kind, -1, () -> yard.creeps(0, 2, 5));
            due.is("15: behind kind " + kind, -1, () -> yard.creeps(0, 3, 5));
        }
        yard.set(2, 11, 0);
        due.is("15: through a gap", 15, () -> yard.creeps(0, 3, 5));
        yard.set(0, 5, 1);
        due.is("15: there, in a wall", 0, () -> yard.creeps(0, 0, 5));
        due.is("15: out of a wall", 1, () -> yard.creeps(0, 0, 4));
        due.isRefused("15: no such watcher", Due.INDEX, yard, () -> yard.creeps(1, 0, 0));
        due.isRefused("15: watcher -1", Due.INDEX, yard, () -> yard.creeps(-1, 0, 0));
        for (int out : OUTSIDE) {
            due.isRefused("15: creeps(0, " + out + ", 0)", Due.INDEX, yard, () -> yard.creeps(0, out, 0));
            due.isRefused("15: creeps(0, 0, " + out + ")", Due.INDEX, yard, () -> yard.creeps(0, 0, out));
        }
    }

    private static void would() {
        ShadowWalls yard = withLamp(0, 0, 2);
        due.isRefused("16: a wall throws a shadow", -1, yard, () -> yard.would(1, 0, 1));
        due.isRefused("16: a curtain too", -1, yard, () -> yard.would(1, 0, 2));
        due.isRefused("16: a pane does not", 0, yard, () -> yard.would(1, 0, 3));
        due.isRefused("16: what it is", 0, yard, () -> yard.would(1, 0, 0));
        due.isRefused("16: at the lamp", 0, yard, () -> yard.would(0, 0, 1));
        yard.set(1, 0, 1);
        due.isRefused("16: without the wall", 1, yard, () -> yard.would(1, 0, 0));
        due.isRefused("16: both beside the corner", -2, yard, () -> yard.would(0, 1, 1));
        due.is("16: the kind stays", 1, () -> yard.told(1, 0, 0));
        due.isRefused("16: kind -1", Due.ARGUMENT, yard, () -> yard.would(0, 0, -1));
        due.isRefused("16: kind 4", Due.ARGUMENT, yard, () -> yard.would(0, 0, 4));
        for (int out : OUTSIDE) {
            due.isRefused("16: would(" + out + ", 0, 0)", Due.INDEX, yard, () -> yard.would(out, 0, 0));
            due.isRefused("16: would(0, " + out + ", 4)", Due.INDEX, yard, () -> yard.would(0, out, 4));
        }
        due.is("16: without lamps", 0, () -> new ShadowWalls().would(5, 5, 1));
    }

    private static void advise() {
        ShadowWalls yard = withLamp(0, 0, 1);
        due.isRefused("17: of two the smallest number", 1, yard, () -> yard.advise(0));
        yard.set(1, 0, 1);
        yard.set(0, 1, 2);
        due.isRefused("17: into a wall", 1, yard, () -> yard.advise(0));
        yard.lamp(1, 0, 1);
        due.isRefused("17: not to another lamp", 12, yard, () -> yard.advise(0));
        yard.lamp(0, 1, 1);
        due.isRefused("17: no neighbour left", -1, yard, () -> yard.advise(0));
        ShadowWalls middle = withLamp(5, 5, 1);
        due.isRefused("17: none more than now", -1, middle, () -> middle.advise(0));
        middle.lamp(5, 6, 1);
        due.isRefused("17: up, away from the other", 53, middle, () -> middle.advise(0));
        due.isRefused("17: down, away from the other", 89, middle, () -> middle.advise(1));
        ShadowWalls sides = withLamp(11, 5, 1);
        due.isRefused("17: from the right side", 70, sides, () -> sides.advise(0));
        sides.carry(0, 0, 5);
        due.isRefused("17: from the left side", 61, sides, () -> sides.advise(0));
        sides.carry(0, 11, 11);
        due.isRefused("17: from the last cell", 131, sides, () -> sides.advise(0));
        ShadowWalls lane = allOfKind(1);
        for (int y = 0; y < 12; y++) {
            lane.set(0, y, 0);
        }
        lane.set(1, 0, 0);
        lane.lamp(1, 0, 3);
        lane.lamp(1, 1, 1);
        due.is("17: round the bend of the lane", 7, () -> lane.count(3));
        due.isRefused("17: to cell 0, down the lane", 0, lane, () -> lane.advise(0));
        due.is("17: what it gains", 9, () -> lane.carry(0, 0, 0));
        due.isRefused("17: no such lamp", Due.INDEX, sides, () -> sides.advise(1));
        due.isRefused("17: lamp -1", Due.INDEX, sides, () -> sides.advise(-1));
    }

    private static void darkest() {
        ShadowWalls yard = allOfKind(1);
        due.is("18: none open", -1, yard::darkest);
        yard.lamp(0, 0, 1);
        yard.set(0, 0, 0);
        due.is("18: the one that is open", 0, yard::darkest);
        yard.set(1, 0, 0);
        yard.set(0, 1, 0);
        due.is("18: the least bright, of two the smallest number", 1, yard::darkest);
        yard.set(11, 11, 0);
        due.is("18: a dark one ahead of a lit one with 0", 143, yard::darkest);
        yard.set(5, 5, 0);
        due.is("18: of two dark ones the smallest number", 65, yard::darkest);
        yard.set(4, 5, 3);
        due.is("18: a pane is not open", 65, yard::darkest);
        due.is("18: an open yard", 0, () -> new ShadowWalls().darkest());
    }

    private static void mean() {
        ShadowWalls yard = withLamp(0, 0, 2);
        due.is("19: of the lit cells alone", 5.0 / 6.0, yard::mean);
        yard.turn(0, 1);
        due.is("19: of three cells", 1.0 / 3.0, yard::mean);
        yard.lamp(1, 0, 1);
        due.is("19: of five cells that two lamps light", 2.0 / 5.0, yard::mean);
        due.is("19: none lit", 0.0, () -> new ShadowWalls().mean());
    }

    private static void digest() {
        ShadowWalls yard = withLamp(2, 3, 5);
        yard.lamp(8, 8, 7);
        yard.set(4, 4, 1);
        yard.set(7, 6, 2);
        yard.set(5, 9, 3);
        yard.watcher(0, 0);
        yard.watcher(6, 7);
        yard.watcher(11, 0);
        yard.creep(2, 11, 1);
        long want = digestOfFace(yard);
        due.is("20: from what the face tells", want, yard::digest);
        due.is("20: the same again", want, yard::digest);
    }

    private static long digestOfFace(ShadowWalls yard) {
        long d = 1447;
        for (int what = 0; what < 8; what++) {
            d = d * 31 + yard.count(what);
        }
        for (int y = 0; y < 12; y++) {
            for (int x = 0; x < 12; x++) {
                d = (d * 31 + yard.told(x, y, 0)) * 31 + yard.told(x, y, 2);
            }
        }
        for (int lamp = 0; lamp < yard.count(0); lamp++) {
            for (int what = 0; what < 4; what++) {
                d = d * 31 + yard.about(lamp, what);
            }
        }
        for (int watcher = 0; watcher < yard.count(1); watcher++) {
            for (int what = 0; what < 5; what++) {
                d = d * 31 + yard.seat(watcher, what);
            }
        }
        return d;
    }
}
