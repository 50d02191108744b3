import java.util.Random;
import java.util.concurrent.Callable;

/** Long runs of drawn calls, each answered by the program and by the model; the draws are always the same. */
public final class ModelTest {
    private static final int RUNS = 60;
    private static final int CALLS = 512;
    private static final int METHODS = 19;
    private static final int[] WILD = {-1, 4, 6, 12, 13, 144, -12, Integer.MIN_VALUE, Integer.MAX_VALUE, 1 << 30};

    private final Due due;
    private final Random draws;
    private final ShadowWalls yard = new ShadowWalls();
    private final Model model = new Model();
    private final int run;
    /** How many of 100 calls change kinds: some yards stay open, others fill with walls. */
    private final int building;

    private ModelTest(Due due, int run) {
        this.due = due;
        this.run = run;
        this.draws = new Random(1447L + run);
        this.building = run % 4 * 15;
    }

    public static void main(String[] args) {
        Due due = new Due("ModelTest");
        everyWay(due);
        for (int run = 0; run < RUNS; run++) {
            new ModelTest(due, run).play();
        }
        due.end();
    }

    private static void everyWay(Due due) {
        for (int from = 0; from < 144; from++) {
            everyWayFrom(from, due);
        }
    }

    /** On a yard for each cell to start from, since a yard answers 512 calls only. */
    private static void everyWayFrom(int start, Due due) {
        ShadowWalls yard = new ShadowWalls();
        Model model = new Model();
        Random draws = new Random(31);
        for (int cell = 0; cell < 144; cell++) {
            int kind = draws.nextInt(8) > 3 ? 0 : draws.nextInt(4);
            yard.set(cell % 12, cell / 12, kind);
            model.set(cell % 12, cell / 12, kind);
        }
        for (int goal = 0; goal < 144; goal++) {
            int to = goal;
            due.is("far(" + start + ", " + to + ")", model.far(start, to), () -> yard.far(start, to));
            due.is("stops(" + start + ", " + to + ")", model.stops(start, to), () -> yard.stops(start, to));
        }
    }

    private void play() {
        for (int call = 1; call < CALLS; call++) {
            if (draws.nextInt(100) < building) {
                call(0);
            } else {
                call(draws.nextInt(METHODS));
            }
        }
        same("digest()", model::digest, yard::digest);
    }

    private int upTo(int size) {
        return draws.nextInt(40) == 0 ? WILD[draws.nextInt(WILD.length)] : draws.nextInt(size);
    }

    private int placed() {
        return upTo(12);
    }

    private void same(String what, Callable<?> expected, Callable<?> actual) {
        due.is("run " + run + ": " + what, Due.answerOf(expected), actual);
    }

    private void call(int method) {
        if (method < 6) {
            change(method, placed(), placed());
        } else if (method < 11) {
            ask(method, placed(), placed());
        } else {
            ponder(method, placed(), placed());
        }
    }

    private void change(int method, int x, int y) {
        int lamp = upTo(4);
        int watcher = upTo(6);
        int reach = draws.nextInt(40) == 0 ? upTo(14) : 1 + draws.nextInt(draws.nextBoolean() ? 4 : 12);
        int kind = upTo(4);
        String at = x + ", " + y;
        switch (method) {
            case 0 -> same("set(" + at + ", " + kind + ")", () -> model.set(x, y, kind), () -> yard.set(x, y, kind));
            case 1 -> same("lamp(" + at + ", " + reach + ")", () -> model.lamp(x, y, reach), () -> yard.lamp(x, y, reach));
            case 2 -> same("carry(" + lamp + ", " + at + ")", () -> model.carry(lamp, x, y), () -> yard.carry(lamp, x, y));
            case 3 -> same("turn(" + lamp + ", " + reach + ")", () -> model.turn(lamp, reach), () -> yard.turn(lamp, reach));
            case 4 -> same("watcher(" + at + ")", () -> model.watcher(x, y), () -> yard.watcher(x, y));
            default -> same("creep(" + watcher + ", " + at + ")", () -> model.creep(watcher, x, y), () -> yard.creep(watcher, x, y));
        }
    }

    private void ask(int method, int x, int y) {
        int lamp = upTo(4);
        int a = upTo(6);
        int b = upTo(6);
        int what = upTo(method == 10 ? 8 : 5);
        switch (method) {
            case 6 -> same("told(" + x + ", " + y + ", " + what + ")", () -> model.told(x, y, what), () -> yard.told(x, y, what));
            case 7 -> same("about(" + lamp + ", " + what + ")", () -> model.about(lamp, what), () -> yard.about(lamp, what));
            case 8 -> same("seat(" + a + ", " + what + ")", () -> model.seat(a, what), () -> yard.seat(a, what));
            case 9 -> same("sees(" + a + ", " + b + ")", () -> model.sees(a, b), () -> yard.sees(a, b));
            default -> same("count(" + what + ")", () -> model.count(what), () -> yard.count(what));
        }
    }

    private void ponder(int method, int x, int y) {
        int lamp = upTo(4);
        int watcher = upTo(6);
        int from = upTo(144);
        int to = upTo(144);
        int kind = upTo(4);
        switch (method) {
            case 11 -> same("far(" + from + ", " + to + ")", () -> model.far(from, to), () -> yard.far(from, to));
            case 12 -> same("stops(" + from + ", " + to + ")", () -> model.stops(from, to), () -> yard.stops(from, to));
            case 13 -> same("creeps(" + watcher + ", " + x + ", " + y + ")", () -> model.creeps(watcher, x, y), () -> yard.creeps(watcher, x, y));
            case 14 -> same("would(" + x + ", " + y + ", " + kind + ")", () -> model.would(x, y, kind), () -> yard.would(x, y, kind));
            case 15 -> same("advise(" + lamp + ")", () -> model.advise(lamp), () -> yard.advise(lamp));
            case 16 -> same("darkest()", model::darkest, yard::darkest);
            case 17 -> same("mean()", model::mean, yard::mean);
            default -> same("digest()", model::digest, yard::digest);
        }
    }
}
