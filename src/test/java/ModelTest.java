import java.util.Random;
import java.util.function.LongSupplier;

/** Promises 1 to 16: runs of mixed calls, right and wrong, held against the model. */
public final class ModelTest {
    private static final int CALLS = 512;
    private static final int[] WILD = {
        -1, Integer.MIN_VALUE, Integer.MAX_VALUE, 12, 40, 41, 5, 10, 100, 1 << 20, -100
    };

    private final Random dice;
    private final MachineTables x = new MachineTables();
    private final Model model = new Model();
    private final String name;
    private final int mostStates;
    private int calls = 0;

    private ModelTest(int seed) {
        dice = new Random(seed);
        name = "run " + seed;
        mostStates = new int[] {4, 7, 12, 40}[seed % 4];
    }

    private static String answer(LongSupplier call) {
        try {
            return Long.toString(call.getAsLong());
        } catch (RuntimeException e) {
            return "throws." + e.getClass().getSimpleName();
        }
    }

    private void ask(String call, LongSupplier due, LongSupplier got) {
        calls++;
        Due.same(name + " call " + calls + " " + call, answer(due), answer(got));
    }

    /** Mostly 0 .. bound - 1, now and then something wild or just past. */
    private int some(int bound) {
        int kind = dice.nextInt(40);
        if (kind == 0) {
            return WILD[dice.nextInt(WILD.length)];
        }
        return kind == 1 ? bound : dice.nextInt(Math.max(bound, 1));
    }

    private int someMachine() {
        return some(model.total(0));
    }

    private int someState(int m) {
        return some(Math.max(model.total(100 + m), 1));
    }

    private void askMachine() {
        int states = dice.nextInt(12) == 0 ? some(42) : 1 + dice.nextInt(mostStates);
        int inputs = dice.nextInt(12) == 0 ? some(6) : 1 + dice.nextInt(4);
        ask("machine", () -> model.machine(states, inputs), () -> x.machine(states, inputs));
        int m = model.total(0) - 1;
        if (m >= 0 && dice.nextInt(5) != 0 && model.total(100 + m) <= 12) {
            askArrows(m);
        }
    }

    private void askArrows(int m) {
        int states = model.total(100 + m);
        int inputs = model.total(200 + m);
        int[][] rows = Tables.random(dice, states, inputs, 1 + dice.nextInt(4));
        for (int s = 0; s < states; s++) {
            for (int i = 0; i < inputs; i++) {
                askArrow(m, s, i, rows[s][2 * i], rows[s][2 * i + 1]);
            }
        }
    }

    private void askArrow(int m, int s, int i, int next, int output) {
        ask("arrow", () -> model.arrow(m, s, i, next, output) ? 1 : 0,
            () -> x.arrow(m, s, i, next, output) ? 1 : 0);
    }

    private void askWord() {
        ask("total(1)", () -> model.total(1), () -> x.total(1));
        for (int i = -1; i <= model.word.size() && calls < CALLS; i++) {
            int at = i;
            ask("letter " + i, () -> model.letter(at), () -> x.letter(at));
        }
    }

    private void askOne() {
        int m = someMachine();
        int n = someMachine();
        int s = someState(m);
        int t = someState(n);
        int i = some(4);
        int what = some(2);
        int total = dice.nextInt(3) * 100 + some(13);
        switch (dice.nextInt(17)) {
            case 0 -> askMachine();
            case 1 -> askArrow(m, s, i, someState(m), some(10));
            case 2 -> askArrow(m, s, i, someState(m), some(2));
            case 3 -> ask("look", () -> model.look(m, s, i, what), () -> x.look(m, s, i, what));
            case 4 -> ask("classes", () -> model.classes(m), () -> x.classes(m));
            case 5 -> ask("like", () -> model.like(m, s), () -> x.like(m, s));
            case 6, 7 -> ask("alike", () -> model.alike(m, s, n, t) ? 1 : 0,
                () -> x.alike(m, s, n, t) ? 1 : 0);
            case 8 -> ask("least", () -> model.least(m), () -> x.least(m));
            case 9 -> ask("part", () -> model.part(m, s), () -> x.part(m, s));
            case 10 -> ask("reset", () -> model.reset(m), () -> x.reset(m));
            case 11 -> ask("home", () -> model.home(m), () -> x.home(m));
            case 12 -> ask("chain", () -> model.chain(m, n), () -> x.chain(m, n));
            case 13 -> askWord();
            case 14 -> ask("along", () -> model.along(m, s), () -> x.along(m, s));
            case 15 -> ask("total", () -> model.total(total), () -> x.total(total));
            default -> {
                if (dice.nextInt(4) == 0) {
                    ask("clear", () -> { model.clear(); return 0; }, () -> { x.clear(); return 0; });
                }
            }
        }
    }

    private void run() {
        for (int turn = 0; turn < CALLS && calls < CALLS - 60; turn++) {
            askOne();
        }
        askWord();
    }

    public static void main(String[] args) {
        int runs = args.length > 0 ? Integer.parseInt(args[0]) : 600;
        for (int seed = 0; seed < runs; seed++) {
            new ModelTest(seed).run();
        }
        Due.end();
    }
}
