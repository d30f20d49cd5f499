import java.util.Random;
import java.util.function.IntSupplier;

/** Long runs of calls, drawn from fixed seeds: PatchDesk answers and throws as the Model does, and nothing else. */
public final class RandomRunsTest {
    private static final int RUNS = 3000;
    /** The document's limit; what a desk answers behind it is free. */
    private static final int CALLS = 512;
    private static final int CALLS_OF_COMPARE_WHOLE = 8 * 6 + 4 * 6 + 4 * 6 * 3;

    private static final Check CHECK = new Check();

    private final Random random;
    private final PatchDesk desk = new PatchDesk();
    private final Model model = new Model();
    private final int run;
    /** How seldom a run makes functions and tasks, so that some runs stay long without tasks and some do not. */
    private final int functionsEnd;
    private final int tasksBegin;

    private RandomRunsTest(int run) {
        this.run = run;
        random = new Random(run);
        functionsEnd = 10 + random.nextInt(60);
        tasksBegin = random.nextInt(functionsEnd + 20);
    }

    public static void main(String[] args) {
        for (int run = 0; run < RUNS; run++) {
            new RandomRunsTest(run).play();
        }
        CHECK.end("RandomRunsTest");
    }

    /** Every second run is compared as a whole at its end; the others go on to the last call. */
    private void play() {
        boolean isCompared = run % 2 == 1;
        int calls = isCompared ? CALLS - CALLS_OF_COMPARE_WHOLE : CALLS;
        for (int i = 0; i < calls; i++) {
            boolean early = i < functionsEnd;
            int die = random.nextInt(100);
            if (early && die < 60) {
                build();
            } else if (die < 5) {
                build();
            } else if (die < 45 && i >= tasksBegin) {
                runTasks();
            } else if (die < 65) {
                patch();
            } else {
                inspect();
            }
        }
        if (isCompared) {
            compareWhole();
        }
    }

    private void build() {
        if (random.nextInt(4) == 0) {
            int signature = random.nextInt(20) == 0 ? any() : random.nextInt(2);
            compare("function(" + signature + ")", () -> desk.function(signature), () -> model.function(signature));
        } else {
            operation(false);
        }
    }

    private void operation(boolean ofDraft) {
        int function = someFunction();
        int kind = random.nextInt(30) == 0 ? any() : random.nextInt(6);
        int n = random.nextInt(8) == 0 ? any() : random.nextInt(3);
        compare("operation(" + function + ", " + ofDraft + ", " + kind + ", " + n + ")",
                () -> desk.operation(function, ofDraft, kind, n), () -> model.operation(function, ofDraft, kind, n));
    }

    private void runTasks() {
        if (random.nextInt(12) == 0) {
            int function = someFunction();
            compare("task(" + function + ")", () -> desk.task(function), () -> model.task(function));
            return;
        }
        int task = someTask();
        int steps = random.nextInt(10) == 0 ? random.nextInt(104) - 2 : 1 + random.nextInt(4);
        compare("step(" + task + ", " + steps + ")", () -> desk.step(task, steps), () -> model.step(task, steps));
    }

    private void patch() {
        int die = random.nextInt(20);
        if (die < 5) {
            int function = someFunction();
            int signature = random.nextInt(20) == 0 ? any() : random.nextInt(12) / 11;
            compare("name(" + function + ", " + signature + ")",
                    () -> desk.name(function, signature), () -> model.name(function, signature));
        } else if (die < 13) {
            operation(true);
        } else if (die < 17) {
            compare("apply()", desk::apply, model::apply);
        } else {
            compare("turn()", desk::turn, model::turn);
        }
    }

    private void inspect() {
        int die = random.nextInt(5);
        int first = die == 0 ? someFunction() : someTask();
        int second = random.nextInt(8) - 1;
        int third = random.nextInt(5) - 1;
        if (die == 0) {
            compare("body(" + first + ", " + second + ")",
                    () -> desk.body(first, second), () -> model.body(first, second));
        } else if (die == 1) {
            compare("look(" + first + ", " + second + ")",
                    () -> desk.look(first, second), () -> model.look(first, second));
        } else if (die == 2) {
            compare("frame(" + first + ", " + second + ", " + third + ")",
                    () -> desk.frame(first, second, third), () -> model.frame(first, second, third));
        } else if (die == 3) {
            compare("target()", desk::target, model::target);
        } else {
            compare("patches()", desk::patches, model::patches);
        }
    }

    private void compareWhole() {
        for (int a = 0; a < 8; a++) {
            for (int b = 0; b < 6; b++) {
                int function = a;
                int level = b;
                compare("at the end body", () -> desk.body(function, level), () -> model.body(function, level));
            }
        }
        for (int a = 0; a < 4; a++) {
            for (int b = 0; b < 6; b++) {
                int task = a;
                int k = b;
                compare("at the end look", () -> desk.look(task, k), () -> model.look(task, k));
                for (int c = 0; c < 3; c++) {
                    int what = c;
                    compare("at the end frame", () -> desk.frame(task, k, what), () -> model.frame(task, k, what));
                }
            }
        }
    }

    private void compare(String call, IntSupplier ofDesk, IntSupplier ofModel) {
        String got = answer(ofDesk);
        String due = answer(ofModel);
        CHECK.holds("run " + run + ": " + call + " answers " + due + " (it answered " + got + ")", got.equals(due));
    }

    private static String answer(IntSupplier call) {
        try {
            return Integer.toString(call.getAsInt());
        } catch (RuntimeException e) {
            return e.getClass().getSimpleName();
        }
    }

    private int someFunction() {
        return random.nextInt(25) == 0 ? any() : random.nextInt(3);
    }

    private int someTask() {
        return random.nextInt(25) == 0 ? any() : random.nextInt(3);
    }

    private int any() {
        int[] edges = {Integer.MIN_VALUE, -100, -99, -1, 0, 1, 2, 3, 4, 5, 6, 7, 8, 9, 10, 11, 12, 13, 99, 100,
            Integer.MAX_VALUE};
        return edges[random.nextInt(edges.length)];
    }
}
