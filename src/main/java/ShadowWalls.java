import java.util.Arrays;

/**
 * A yard of 12 times 12 cells with walls, curtains and panes, in which lamps throw light and
 * shadows, and watchers see, hide and creep through the dark.
 */
public final class ShadowWalls {
    private static final int SIDE = 12;
    private static final int CELLS = 144;
    /** A straight way comes to at most 11 cells by x and 11 by y. */
    private static final int LONGEST_WAY = 22;
    /** Neighbours are numbered by side in the order of their cells' numbers. */
    private static final int NEIGHBOURS = 4;
    private static final int RIGHT = 2;
    private static final int BELOW = 3;
    private static final int NONE = -1;

    private static final int OPEN = 0;
    private static final int WALL = 1;
    private static final int CURTAIN = 2;
    private static final int PANE = 3;

    private static final int LIGHT = 1;
    private static final int SIGHT = 2;

    private static final int MOST_LAMPS = 4;
    private static final int LONGEST_REACH = 12;
    private static final int MOST_WATCHERS = 6;

    private static final int LAST_OF_TOLD = 4;
    private static final int LAST_OF_ABOUT = 3;
    private static final int LAST_OF_SEAT = 4;
    private static final int LAST_OF_COUNT = 7;

    private static final long DIGEST_START = 1447L;
    private static final long DIGEST_FACTOR = 31L;

    private final int[] kinds;
    private final int[] lampCells;
    private final int[] lampReaches;
    private final int[] watcherCells;
    /** For each cell one bit a lamp: set if this lamp lights it. Kept up to date by every change. */
    private final int[] light;
    private final int[] steps;
    private final int[] queue;
    /** One for all walks, so that a call makes no objects. */
    private final Way way;
    private int lamps;
    private int watchers;
    private int stepsCrept;

    public ShadowWalls() {
        kinds = new int[CELLS];
        lampCells = new int[MOST_LAMPS];
        lampReaches = new int[MOST_LAMPS];
        watcherCells = new int[MOST_WATCHERS];
        light = new int[CELLS];
        steps = new int[CELLS];
        queue = new int[CELLS];
        way = new Way();
    }

    // ---- the yard, lamps, watchers

    public int set(int x, int y, int kind) throws IndexOutOfBoundsException, IllegalArgumentException {
        requirePlace(x, y);
        requireKind(kind);
        int cell = cellAt(x, y);
        int before = kindOf(cell);
        putKind(cell, kind);
        shineAll();
        return before;
    }

    public int lamp(int x, int y, int reach)
            throws IndexOutOfBoundsException, IllegalArgumentException, IllegalStateException {
        requirePlace(x, y);
        requireReach(reach);
        int cell = cellAt(x, y);
        int number = lamps;
        if (number < 0 || number >= lampCells.length || number >= lampReaches.length) {
            throw new IllegalStateException("there are 4 lamps");
        }
        if (isLampAt(cell)) {
            throw new IllegalStateException("a lamp is there");
        }
        lampCells[number] = cell;
        lampReaches[number] = reach;
        lamps = number + 1;
        shine(number);
        return number;
    }

    public int carry(int lamp, int x, int y) throws IndexOutOfBoundsException, IllegalStateException {
        requireLamp(lamp);
        requirePlace(x, y);
        int cell = cellAt(x, y);
        if (isLampAt(cell)) {
            throw new IllegalStateException("a lamp is there");
        }
        putLamp(lamp, cell);
        shine(lamp);
        return litCells();
    }

    public int turn(int lamp, int reach) throws IndexOutOfBoundsException, IllegalArgumentException {
        requireLamp(lamp);
        requireReach(reach);
        int before = reachOf(lamp);
        putReach(lamp, reach);
        shine(lamp);
        return before;
    }

    public int watcher(int x, int y) throws IndexOutOfBoundsException, IllegalStateException {
        requirePlace(x, y);
        int cell = cellAt(x, y);
        int number = watchers;
        if (number < 0 || number >= watcherCells.length) {
            throw new IllegalStateException("there are 6 watchers");
        }
        if (kindOf(cell) != OPEN) {
            throw new IllegalStateException("the cell is not open");
        }
        watcherCells[number] = cell;
        watchers = number + 1;
        return number;
    }

    public int creep(int watcher, int x, int y) throws IndexOutOfBoundsException, IllegalStateException {
        requireWatcher(watcher);
        requirePlace(x, y);
        int goal = cellAt(x, y);
        int taken = stepsTo(watcher, goal);
        if (taken == NONE) {
            throw new IllegalStateException("it cannot creep there");
        }
        putWatcher(watcher, goal);
        stepsCrept += taken;
        return taken;
    }

    // ---- what is there

    public int told(int x, int y, int what) throws IndexOutOfBoundsException {
        requirePlace(x, y);
        requireWhat(what, LAST_OF_TOLD);
        int cell = cellAt(x, y);
        switch (what) {
            case 0:
                return kindOf(cell);
            case 1:
                return brightness(cell);
            case 2:
                return Integer.bitCount(lampsOn(cell));
            case 3:
                return watchersAt(cell);
            default:
                return watchersSeeing(cell);
        }
    }

    public int about(int lamp, int what) throws IndexOutOfBoundsException {
        requireLamp(lamp);
        requireWhat(what, LAST_OF_ABOUT);
        switch (what) {
            case 0:
                return cellOfLamp(lamp);
            case 1:
                return reachOf(lamp);
            case 2:
                return cellsLitBy(lamp);
            default:
                return cellsLitOnlyBy(lamp);
        }
    }

    public int seat(int watcher, int what) throws IndexOutOfBoundsException {
        requireWatcher(watcher);
        requireWhat(what, LAST_OF_SEAT);
        switch (what) {
            case 0:
                return cellOfWatcher(watcher);
            case 1:
                return cellsSeenBy(watcher);
            case 2:
                return isHidden(watcher) ? 1 : 0;
            case 3:
                return isLit(cellOfWatcher(watcher)) ? 1 : 0;
            default:
                return othersSeenBy(watcher);
        }
    }

    public boolean sees(int a, int b) throws IndexOutOfBoundsException {
        requireWatcher(a);
        requireWatcher(b);
        return isSeenBy(a, cellOfWatcher(b));
    }

    public int count(int what) throws IndexOutOfBoundsException {
        requireWhat(what, LAST_OF_COUNT);
        switch (what) {
            case 0:
                return lamps;
            case 1:
                return watchers;
            case 2:
                return cellsNotOpen();
            case 3:
                return litCells();
            case 4:
                return edgesOfLight();
            case 5:
                return hiddenWatchers();
            case 6:
                return brightnessOfAll();
            default:
                return stepsCrept;
        }
    }

    // ---- ways

    public int far(int from, int to) throws IndexOutOfBoundsException {
        requireCell(from);
        requireCell(to);
        int cells = 0;
        way.begin(from, to);
        while (cells < LONGEST_WAY && way.goesOn()) {
            way.step();
            cells++;
        }
        return cells;
    }

    public int stops(int from, int to) throws IndexOutOfBoundsException {
        requireCell(from);
        requireCell(to);
        return stoppedBetween(from, to);
    }

    public int creeps(int watcher, int x, int y) throws IndexOutOfBoundsException {
        requireWatcher(watcher);
        requirePlace(x, y);
        return stepsTo(watcher, cellAt(x, y));
    }

    // ---- what would be

    public int would(int x, int y, int kind) throws IndexOutOfBoundsException, IllegalArgumentException {
        requirePlace(x, y);
        requireKind(kind);
        int cell = cellAt(x, y);
        int before = kindOf(cell);
        putKind(cell, kind);
        int then = litCellsAnew();
        putKind(cell, before);
        return then - litCells();
    }

    public int advise(int lamp) throws IndexOutOfBoundsException {
        requireLamp(lamp);
        int home = cellOfLamp(lamp);
        int best = NONE;
        int most = litCells();
        for (int side = 0; side < NEIGHBOURS; side++) {
            int cell = neighbour(home, side);
            if (cell != NONE && !isLampAt(cell)) {
                int lit = litIfCarried(lamp, cell);
                if (lit > most) {
                    most = lit;
                    best = cell;
                }
            }
        }
        return best;
    }

    public int darkest() {
        int best = NONE;
        for (int cell = 0; cell < CELLS; cell++) {
            if (kindOf(cell) == OPEN && (best == NONE || isDarkerThan(cell, best))) {
                best = cell;
            }
        }
        return best;
    }

    public double mean() {
        int lit = litCells();
        if (lit == 0) {
            return 0.0;
        }
        return (double) brightnessOfAll() / (double) lit;
    }

    public long digest() {
        long d = DIGEST_START;
        for (int what = 0; what <= LAST_OF_COUNT; what++) {
            d = d * DIGEST_FACTOR + count(what);
        }
        for (int cell = 0; cell < CELLS; cell++) {
            d = d * DIGEST_FACTOR + kindOf(cell);
            d = d * DIGEST_FACTOR + Integer.bitCount(lampsOn(cell));
        }
        for (int lamp = 0; lamp < lamps; lamp++) {
            for (int what = 0; what <= LAST_OF_ABOUT; what++) {
                d = d * DIGEST_FACTOR + about(lamp, what);
            }
        }
        for (int watcher = 0; watcher < watchers; watcher++) {
            for (int what = 0; what <= LAST_OF_SEAT; what++) {
                d = d * DIGEST_FACTOR + seat(watcher, what);
            }
        }
        return d;
    }

    // What a call is given.

    private static void requirePlace(int x, int y) {
        if (x < 0 || x >= SIDE || y < 0 || y >= SIDE) {
            throw new IndexOutOfBoundsException("x or y is not 0 to 11");
        }
    }

    private static void requireCell(int cell) {
        if (cell < 0 || cell >= CELLS) {
            throw new IndexOutOfBoundsException("a cell is not 0 to 143");
        }
    }

    private static void requireKind(int kind) {
        if (kind < OPEN || kind > PANE) {
            throw new IllegalArgumentException("kind is not 0 to 3");
        }
    }

    private static void requireReach(int reach) {
        if (reach < 1 || reach > LONGEST_REACH) {
            throw new IllegalArgumentException("reach is not 1 to 12");
        }
    }

    private static void requireWhat(int what, int last) {
        if (what < 0 || what > last) {
            throw new IndexOutOfBoundsException("what is not told");
        }
    }

    private void requireLamp(int lamp) {
        if (lamp < 0 || lamp >= lamps) {
            throw new IndexOutOfBoundsException("there is no such lamp");
        }
    }

    private void requireWatcher(int watcher) {
        if (watcher < 0 || watcher >= watchers) {
            throw new IndexOutOfBoundsException("there is no such watcher");
        }
    }

    // Cells.

    private static int cellAt(int x, int y) {
        return SIDE * y + x;
    }

    private static int columnOf(int cell) {
        return cell % SIDE;
    }

    private static int rowOf(int cell) {
        return cell / SIDE;
    }

    private static int neighbour(int cell, int side) {
        switch (side) {
            case 0:
                return rowOf(cell) > 0 ? cell - SIDE : NONE;
            case 1:
                return columnOf(cell) > 0 ? cell - 1 : NONE;
            case RIGHT:
                return columnOf(cell) < SIDE - 1 ? cell + 1 : NONE;
            case BELOW:
                return rowOf(cell) < SIDE - 1 ? cell + SIDE : NONE;
            default:
                return NONE;
        }
    }

    private int kindOf(int cell) {
        return cell >= 0 && cell < kinds.length ? kinds[cell] : OPEN;
    }

    private void putKind(int cell, int kind) {
        if (cell >= 0 && cell < kinds.length) {
            kinds[cell] = kind;
        }
    }

    private int cellsNotOpen() {
        int found = 0;
        for (int cell = 0; cell < CELLS; cell++) {
            if (kindOf(cell) != OPEN) {
                found++;
            }
        }
        return found;
    }

    // Straight ways.

    /** What a cell stops, as bits: LIGHT, SIGHT. */
    private int stoppedBy(int cell) {
        switch (kindOf(cell)) {
            case WALL:
                return LIGHT | SIGHT;
            case CURTAIN:
                return LIGHT;
            default:
                return 0;
        }
    }

    private int stoppedBetween(int from, int to) {
        int stopped = 0;
        way.begin(from, to);
        for (int n = 0; n < LONGEST_WAY && way.goesOn(); n++) {
            way.step();
            if (way.wentThroughCorner()) {
                stopped |= stoppedBy(way.cornerByX()) & stoppedBy(way.cornerByY());
            }
            if (way.goesOn()) {
                stopped |= stoppedBy(way.cell());
            }
        }
        return stopped;
    }

    // Lamps and light.

    private int cellOfLamp(int lamp) {
        return lamp >= 0 && lamp < lampCells.length ? lampCells[lamp] : NONE;
    }

    private void putLamp(int lamp, int cell) {
        if (lamp >= 0 && lamp < lampCells.length) {
            lampCells[lamp] = cell;
        }
    }

    private int reachOf(int lamp) {
        return lamp >= 0 && lamp < lampReaches.length ? lampReaches[lamp] : 0;
    }

    private void putReach(int lamp, int reach) {
        if (lamp >= 0 && lamp < lampReaches.length) {
            lampReaches[lamp] = reach;
        }
    }

    private boolean isLampAt(int cell) {
        for (int lamp = 0; lamp < lamps; lamp++) {
            if (cellOfLamp(lamp) == cell) {
                return true;
            }
        }
        return false;
    }

    private void shineAll() {
        for (int lamp = 0; lamp < lamps; lamp++) {
            shine(lamp);
        }
    }

    /** Finds this lamp's light anew, and leaves the other lamps' as it is. */
    private void shine(int lamp) {
        int bit = 1 << lamp;
        for (int cell = 0; cell < light.length; cell++) {
            light[cell] = shinesOn(lamp, cell) ? light[cell] | bit : light[cell] & ~bit;
        }
    }

    private boolean shinesOn(int lamp, int cell) {
        int home = cellOfLamp(lamp);
        int reach = reachOf(lamp);
        int dx = columnOf(cell) - columnOf(home);
        int dy = rowOf(cell) - rowOf(home);
        return dx * dx + dy * dy <= reach * reach && (stoppedBetween(home, cell) & LIGHT) == 0;
    }

    private int lampsOn(int cell) {
        return cell >= 0 && cell < light.length ? light[cell] : 0;
    }

    private boolean isLit(int cell) {
        return lampsOn(cell) != 0;
    }

    private int litCells() {
        int found = 0;
        for (int cell = 0; cell < CELLS; cell++) {
            if (isLit(cell)) {
                found++;
            }
        }
        return found;
    }

    /** For a yard that is only supposed, for which the light is not kept. */
    private int litCellsAnew() {
        int found = 0;
        for (int cell = 0; cell < CELLS; cell++) {
            if (isShoneOn(cell)) {
                found++;
            }
        }
        return found;
    }

    private boolean isShoneOn(int cell) {
        for (int lamp = 0; lamp < lamps; lamp++) {
            if (shinesOn(lamp, cell)) {
                return true;
            }
        }
        return false;
    }

    private int cellsLitBy(int lamp) {
        int found = 0;
        for (int cell = 0; cell < CELLS; cell++) {
            if ((lampsOn(cell) & 1 << lamp) != 0) {
                found++;
            }
        }
        return found;
    }

    private int cellsLitOnlyBy(int lamp) {
        int found = 0;
        for (int cell = 0; cell < CELLS; cell++) {
            if (lampsOn(cell) == 1 << lamp) {
                found++;
            }
        }
        return found;
    }

    private int brightness(int cell) {
        int sum = 0;
        for (int lamp = 0; lamp < lamps; lamp++) {
            if ((lampsOn(cell) & 1 << lamp) != 0) {
                int home = cellOfLamp(lamp);
                int dx = Math.abs(columnOf(cell) - columnOf(home));
                int dy = Math.abs(rowOf(cell) - rowOf(home));
                sum += reachOf(lamp) - Math.max(dx, dy);
            }
        }
        return sum;
    }

    private int brightnessOfAll() {
        int sum = 0;
        for (int cell = 0; cell < CELLS; cell++) {
            sum += brightness(cell);
        }
        return sum;
    }

    /** A lit cell can have brightness 0 too, and is still no match for a dark one. */
    private boolean isDarkerThan(int cell, int other) {
        if (isLit(cell) != isLit(other)) {
            return isLit(other);
        }
        return brightness(cell) < brightness(other);
    }

    /** Each pair is met once, since only the neighbours to the right and below are looked at. */
    private int edgesOfLight() {
        int found = 0;
        for (int cell = 0; cell < CELLS; cell++) {
            for (int side = RIGHT; side <= BELOW; side++) {
                int other = neighbour(cell, side);
                if (other != NONE && isLit(cell) != isLit(other)) {
                    found++;
                }
            }
        }
        return found;
    }

    /** The other lamps' light is kept, so only this one's is found anew. */
    private int litIfCarried(int lamp, int goal) {
        int home = cellOfLamp(lamp);
        int found = 0;
        putLamp(lamp, goal);
        for (int cell = 0; cell < CELLS; cell++) {
            if ((lampsOn(cell) & ~(1 << lamp)) != 0 || shinesOn(lamp, cell)) {
                found++;
            }
        }
        putLamp(lamp, home);
        return found;
    }

    // Watchers.

    private int cellOfWatcher(int watcher) {
        return watcher >= 0 && watcher < watcherCells.length ? watcherCells[watcher] : NONE;
    }

    private void putWatcher(int watcher, int cell) {
        if (watcher >= 0 && watcher < watcherCells.length) {
            watcherCells[watcher] = cell;
        }
    }

    private int watchersAt(int cell) {
        int found = 0;
        for (int watcher = 0; watcher < watchers; watcher++) {
            if (cellOfWatcher(watcher) == cell) {
                found++;
            }
        }
        return found;
    }

    private boolean isSeenBy(int watcher, int cell) {
        return isLit(cell) && (stoppedBetween(cellOfWatcher(watcher), cell) & SIGHT) == 0;
    }

    private int watchersSeeing(int cell) {
        int found = 0;
        for (int watcher = 0; watcher < watchers; watcher++) {
            if (isSeenBy(watcher, cell)) {
                found++;
            }
        }
        return found;
    }

    private int cellsSeenBy(int watcher) {
        int found = 0;
        for (int cell = 0; cell < CELLS; cell++) {
            if (isSeenBy(watcher, cell)) {
                found++;
            }
        }
        return found;
    }

    private int othersSeenBy(int watcher) {
        int found = 0;
        for (int other = 0; other < watchers; other++) {
            if (other != watcher && isSeenBy(watcher, cellOfWatcher(other))) {
                found++;
            }
        }
        return found;
    }

    private boolean isHidden(int watcher) {
        for (int other = 0; other < watchers; other++) {
            if (other != watcher && isSeenBy(other, cellOfWatcher(watcher))) {
                return false;
            }
        }
        return true;
    }

    private int hiddenWatchers() {
        int found = 0;
        for (int watcher = 0; watcher < watchers; watcher++) {
            if (isHidden(watcher)) {
                found++;
            }
        }
        return found;
    }

    // Creeping.

    private int stepsTo(int watcher, int goal) {
        int start = cellOfWatcher(watcher);
        if (start == goal) {
            return 0;
        }
        spreadFrom(start);
        return stepsAt(goal);
    }

    private int stepsAt(int cell) {
        return cell >= 0 && cell < steps.length ? steps[cell] : NONE;
    }

    /** Finds for each cell in how many steps it can be crept to from here, NONE if it cannot. */
    private void spreadFrom(int start) {
        Arrays.fill(steps, NONE);
        int queued = enqueue(start, 0, 0);
        for (int next = 0; next < queued && next < queue.length; next++) {
            int cell = queue[next];
            for (int side = 0; side < NEIGHBOURS; side++) {
                int other = neighbour(cell, side);
                if (other != NONE && stepsAt(other) == NONE && kindOf(other) == OPEN && !isLit(other)) {
                    queued = enqueue(other, stepsAt(cell) + 1, queued);
                }
            }
        }
    }

    private int enqueue(int cell, int stepsThere, int queued) {
        if (cell < 0 || cell >= steps.length || queued < 0 || queued >= queue.length) {
            return queued;
        }
        steps[cell] = stepsThere;
        queue[queued] = cell;
        return queued + 1;
    }

    /** The straight way from one cell to another, walked cell by cell. */
    private static final class Way {
        private int x;
        private int y;
        private int signX;
        private int signY;
        private int spanX;
        private int spanY;
        private int goneX;
        private int goneY;
        private boolean throughCorner;

        void begin(int from, int to) {
            x = columnOf(from);
            y = rowOf(from);
            signX = Integer.signum(columnOf(to) - x);
            signY = Integer.signum(rowOf(to) - y);
            spanX = Math.abs(columnOf(to) - x);
            spanY = Math.abs(rowOf(to) - y);
            goneX = 0;
            goneY = 0;
            throughCorner = false;
        }

        boolean goesOn() {
            return goneX < spanX || goneY < spanY;
        }

        void step() {
            int p = (1 + 2 * goneX) * spanY;
            int q = (1 + 2 * goneY) * spanX;
            throughCorner = p == q;
            if (p <= q) {
                x += signX;
                goneX++;
            }
            if (p >= q) {
                y += signY;
                goneY++;
            }
        }

        boolean wentThroughCorner() {
            return throughCorner;
        }

        int cell() {
            return cellAt(x, y);
        }

        /** The cell beside the corner that a step by x alone would have come to. */
        int cornerByX() {
            return cellAt(x, y - signY);
        }

        /** The cell beside the corner that a step by y alone would have come to. */
        int cornerByY() {
            return cellAt(x - signX, y);
        }
    }
}
