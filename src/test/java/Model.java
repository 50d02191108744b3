import java.util.ArrayDeque;
import java.util.ArrayList;
import java.util.HashMap;
import java.util.List;
import java.util.Map;

/**
 * The document told a second time, by other means: the cells of a straight way are found as those
 * whose inside the line from middle to middle crosses, and nothing is kept but what was set.
 */
final class Model {
    private record Lamp(int x, int y, int reach) {}

    private record Cell(int x, int y) {
        int number() {
            return 12 * y + x;
        }
    }

    private final Map<Cell, Integer> kinds = new HashMap<>();
    private final List<Lamp> lamps = new ArrayList<>();
    private final List<Cell> watchers = new ArrayList<>();
    private int crept = 0;

    int set(int x, int y, int kind) {
        place(x, y);
        argument(kind >= 0 && kind <= 3);
        Integer before = kinds.put(new Cell(x, y), kind);
        return before == null ? 0 : before;
    }

    int lamp(int x, int y, int reach) {
        place(x, y);
        argument(reach >= 1 && reach <= 12);
        state(lamps.size() < 4 && free(x, y));
        lamps.add(new Lamp(x, y, reach));
        return lamps.size() - 1;
    }

    int carry(int lamp, int x, int y) {
        index(lamp, lamps.size());
        place(x, y);
        state(free(x, y));
        lamps.set(lamp, new Lamp(x, y, lamps.get(lamp).reach()));
        return litCells();
    }

    int turn(int lamp, int reach) {
        index(lamp, lamps.size());
        argument(reach >= 1 && reach <= 12);
        Lamp before = lamps.get(lamp);
        lamps.set(lamp, new Lamp(before.x(), before.y(), reach));
        return before.reach();
    }

    int watcher(int x, int y) {
        place(x, y);
        state(watchers.size() < 6 && kind(new Cell(x, y)) == 0);
        watchers.add(new Cell(x, y));
        return watchers.size() - 1;
    }

    int creep(int watcher, int x, int y) {
        int taken = creeps(watcher, x, y);
        state(taken >= 0);
        watchers.set(watcher, new Cell(x, y));
        crept += taken;
        return taken;
    }

    int told(int x, int y, int what) {
        place(x, y);
        index(what, 5);
        Cell cell = new Cell(x, y);
        int seen = 0;
        for (Cell watcher : watchers) {
            seen += sight(watcher, cell) ? 1 : 0;
        }
        int at = 0;
        for (Cell watcher : watchers) {
            at += watcher.equals(cell) ? 1 : 0;
        }
        return new int[] {kind(cell), bright(cell), lit(cell), at, seen}[what];
    }

    int about(int lamp, int what) {
        index(lamp, lamps.size());
        index(what, 4);
        Lamp it = lamps.get(lamp);
        int lights = 0;
        int alone = 0;
        for (Cell cell : all()) {
            boolean here = lights(it, cell);
            lights += here ? 1 : 0;
            alone += here && lit(cell) == 1 ? 1 : 0;
        }
        return new int[] {12 * it.y() + it.x(), it.reach(), lights, alone}[what];
    }

    int seat(int watcher, int what) {
        index(watcher, watchers.size());
        index(what, 5);
        Cell seat = watchers.get(watcher);
        int cells = 0;
        for (Cell cell : all()) {
            cells += sight(seat, cell) ? 1 : 0;
        }
        int seen = 0;
        boolean hidden = true;
        for (int other = 0; other < watchers.size(); other++) {
            if (other != watcher) {
                seen += sight(seat, watchers.get(other)) ? 1 : 0;
                hidden = hidden && !sight(watchers.get(other), seat);
            }
        }
        return new int[] {seat.number(), cells, hidden ? 1 : 0, lit(seat) > 0 ? 1 : 0, seen}[what];
    }

    boolean sees(int a, int b) {
        index(a, watchers.size());
        index(b, watchers.size());
        return sight(watchers.get(a), watchers.get(b));
    }

    int count(int what) {
        index(what, 8);
        int notOpen = 0;
        int edges = 0;
        int brightness = 0;
        for (Cell cell : all()) {
            notOpen += kind(cell) != 0 ? 1 : 0;
            brightness += bright(cell);
            for (Cell other : neighbours(cell)) {
                edges += lit(cell) > 0 && lit(other) == 0 ? 1 : 0;
            }
        }
        int hidden = 0;
        for (int watcher = 0; watcher < watchers.size(); watcher++) {
            hidden += seat(watcher, 2);
        }
        return new int[] {
            lamps.size(), watchers.size(), notOpen, litCells(), edges, hidden, brightness, crept}[what];
    }

    int far(int from, int to) {
        index(from, 144);
        index(to, 144);
        return wayBetween(cell(from), cell(to)).size();
    }

    int stops(int from, int to) {
        index(from, 144);
        index(to, 144);
        return (stopped(cell(from), cell(to), 2) ? 1 : 0) + (stopped(cell(from), cell(to), 1) ? 2 : 0);
    }

    int creeps(int watcher, int x, int y) {
        index(watcher, watchers.size());
        place(x, y);
        Map<Cell, Integer> steps = new HashMap<>();
        ArrayDeque<Cell> next = new ArrayDeque<>();
        steps.put(watchers.get(watcher), 0);
        next.add(watchers.get(watcher));
        while (!next.isEmpty()) {
            Cell cell = next.remove();
            for (Cell other : neighbours(cell)) {
                if (!steps.containsKey(other) && kind(other) == 0 && lit(other) == 0) {
                    steps.put(other, steps.get(cell) + 1);
                    next.add(other);
                }
            }
        }
        return steps.getOrDefault(new Cell(x, y), -1);
    }

    int would(int x, int y, int kind) {
        int now = litCells();
        int before = set(x, y, kind);
        int then = litCells();
        set(x, y, before);
        return then - now;
    }

    int advise(int lamp) {
        index(lamp, lamps.size());
        Lamp it = lamps.get(lamp);
        int best = -1;
        int most = litCells();
        for (Cell cell : all()) {
            boolean beside = Math.abs(cell.x() - it.x()) + Math.abs(cell.y() - it.y()) == 1;
            if (beside && free(cell.x(), cell.y())) {
                lamps.set(lamp, new Lamp(cell.x(), cell.y(), it.reach()));
                if (litCells() > most) {
                    most = litCells();
                    best = cell.number();
                }
                lamps.set(lamp, it);
            }
        }
        return best;
    }

    int darkest() {
        int best = -1;
        int least = Integer.MAX_VALUE;
        for (Cell cell : all()) {
            int rank = lit(cell) == 0 ? -1 : bright(cell);
            if (kind(cell) == 0 && rank < least) {
                least = rank;
                best = cell.number();
            }
        }
        return best;
    }

    double mean() {
        return litCells() == 0 ? 0 : (double) count(6) / litCells();
    }

    long digest() {
        long d = 1447;
        for (int what = 0; what < 8; what++) {
            d = d * 31 + count(what);
        }
        for (Cell cell : all()) {
            d = d * 31 + kind(cell);
            d = d * 31 + lit(cell);
        }
        for (int number = 0; number < lamps.size() * 4; number++) {
            d = d * 31 + about(number / 4, number % 4);
        }
        for (int number = 0; number < watchers.size() * 5; number++) {
            d = d * 31 + seat(number / 5, number % 5);
        }
        return d;
    }

    private static void index(int number, int size) {
        if (number < 0 || number >= size) {
            throw new IndexOutOfBoundsException();
        }
    }

    private static void place(int x, int y) {
        index(x, 12);
        index(y, 12);
    }

    private static void argument(boolean holds) {
        if (!holds) {
            throw new IllegalArgumentException();
        }
    }

    private static void state(boolean holds) {
        if (!holds) {
            throw new IllegalStateException();
        }
    }

    private static Cell cell(int number) {
        return new Cell(number % 12, number / 12);
    }

    private static List<Cell> all() {
        List<Cell> cells = new ArrayList<>();
        for (int number = 0; number < 144; number++) {
            cells.add(cell(number));
        }
        return cells;
    }

    private static List<Cell> neighbours(Cell cell) {
        List<Cell> beside = new ArrayList<>();
        for (Cell other : all()) {
            if (Math.abs(cell.x() - other.x()) + Math.abs(cell.y() - other.y()) == 1) {
                beside.add(other);
            }
        }
        return beside;
    }

    private int kind(Cell cell) {
        return kinds.getOrDefault(cell, 0);
    }

    private boolean free(int x, int y) {
        for (Lamp lamp : lamps) {
            if (lamp.x() == x && lamp.y() == y) {
                return false;
            }
        }
        return true;
    }

    /** A cell k by x and m by y away is crossed within, in units in which the line is 2 * nx * ny long. */
    private static boolean crossed(int k, int m, int nx, int ny) {
        if (nx == 0 || ny == 0) {
            return true;
        }
        int enters = Math.max(0, Math.max((2 * k - 1) * ny, (2 * m - 1) * nx));
        int leaves = Math.min(2 * nx * ny, Math.min((2 * k + 1) * ny, (2 * m + 1) * nx));
        return enters < leaves;
    }

    private static List<Cell> wayBetween(Cell from, Cell to) {
        int nx = Math.abs(to.x() - from.x());
        int ny = Math.abs(to.y() - from.y());
        List<Cell> way = new ArrayList<>();
        for (int k = 0; k <= nx; k++) {
            for (int m = 0; m <= ny; m++) {
                if (k + m > 0 && crossed(k, m, nx, ny)) {
                    way.add(away(from, to, k, m));
                }
            }
        }
        return way;
    }

    private static Cell away(Cell from, Cell to, int k, int m) {
        return new Cell(
            from.x() + k * Integer.signum(to.x() - from.x()),
            from.y() + m * Integer.signum(to.y() - from.y()));
    }

    private boolean stopped(Cell from, Cell to, int lastKindThatStops) {
        for (Cell cell : wayBetween(from, to)) {
            if (!cell.equals(to) && stoppedBy(cell, lastKindThatStops)) {
                return true;
            }
        }
        int nx = Math.abs(to.x() - from.x());
        int ny = Math.abs(to.y() - from.y());
        for (int k = 1; k <= nx; k++) {
            for (int m = 1; m <= ny; m++) {
                boolean corner = (2 * k - 1) * ny == (2 * m - 1) * nx;
                if (corner && stoppedBy(away(from, to, k, m - 1), lastKindThatStops)
                        && stoppedBy(away(from, to, k - 1, m), lastKindThatStops)) {
                    return true;
                }
            }
        }
        return false;
    }

    private boolean stoppedBy(Cell cell, int lastKindThatStops) {
        return kind(cell) >= 1 && kind(cell) <= lastKindThatStops;
    }

    private boolean lights(Lamp lamp, Cell cell) {
        int dx = lamp.x() - cell.x();
        int dy = lamp.y() - cell.y();
        return dx * dx + dy * dy <= lamp.reach() * lamp.reach()
            && !stopped(new Cell(lamp.x(), lamp.y()), cell, 2);
    }

    private int lit(Cell cell) {
        int by = 0;
        for (Lamp lamp : lamps) {
            by += lights(lamp, cell) ? 1 : 0;
        }
        return by;
    }

    private int bright(Cell cell) {
        int sum = 0;
        for (Lamp lamp : lamps) {
            if (lights(lamp, cell)) {
                sum += lamp.reach() - Math.max(Math.abs(lamp.x() - cell.x()), Math.abs(lamp.y() - cell.y()));
            }
        }
        return sum;
    }

    private int litCells() {
        int cells = 0;
        for (Cell cell : all()) {
            cells += lit(cell) > 0 ? 1 : 0;
        }
        return cells;
    }

    private boolean sight(Cell watcher, Cell cell) {
        return lit(cell) > 0 && !stopped(watcher, cell, 1);
    }
}
