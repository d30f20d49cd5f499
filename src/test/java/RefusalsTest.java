import java.util.ArrayList;
import java.util.List;
import java.util.function.Consumer;
import java.util.function.IntSupplier;
import java.util.function.ToIntFunction;

/**
 * Each exception that the document names, in many scenes: the call is refused with it, and what later calls answer is
 * what they answer on a twin that never got the refused call. Only a refused apply changes something: the twin of its
 * desk never got its draft.
 */
public final class RefusalsTest extends Desks {
    /**
     * A desk in some state. Function f has signature f; hasDraft: the draft names function 0 alone; depth: how many
     * frames task 0 has.
     */
    private record Scene(String title, int functions, int tasks, int depth, int patches, boolean hasDraft,
            Consumer<PatchDesk> build) {
        PatchDesk desk() {
            PatchDesk desk = new PatchDesk();
            build.accept(desk);
            return desk;
        }

        boolean isInUse() {
            return tasks > 0 || patches > 0;
        }
    }

    private static final Scene NEW = new Scene("new", 0, 0, 0, 0, false, desk -> { });
    private static final Scene WRITTEN = new Scene("written", 3, 0, 0, 0, false, RefusalsTest::program);
    private static final Scene DRAFTED = new Scene("drafted", 3, 0, 0, 0, true, desk -> {
        program(desk);
        draft(desk, 0, ADD, 3);
    });
    private static final Scene FULL = new Scene("full", 8, 0, 0, 0, true, desk -> {
        functions(desk, 8);
        desk.name(0, 0);
        for (int i = 1; i <= 12; i++) {
            desk.operation(0, false, ADD, i);
            desk.operation(0, true, ADD, -i);
        }
    });
    private static final Scene RUNNING = new Scene("running", 3, 2, 2, 0, false, RefusalsTest::twoTasks);
    private static final Scene FOUR_TASKS = new Scene("four tasks", 3, 4, 2, 0, true, desk -> {
        twoTasks(desk);
        desk.task(2);
        desk.task(0);
        draft(desk, 0, ADD, 3);
    });
    private static final Scene SIX_FRAMES = new Scene("six frames", 1, 1, 6, 0, false, desk -> {
        functions(desk, 1);
        write(desk, 0, false, CALL, 0);
        desk.task(0);
        desk.step(0, 5);
    });
    private static final Scene PATCHED = new Scene("patched", 3, 2, 2, 1, false, desk -> {
        program(desk);
        patch(desk, 2, ADD, 30);
        desk.task(0);
        desk.task(0);
        desk.step(0, 1);
    });
    private static final Scene FORWARDS = new Scene("forwards", 3, 2, 2, 1, false, RefusalsTest::halfWay);
    private static final Scene BACKWARDS = new Scene("backwards", 3, 2, 2, 1, false, desk -> {
        halfWay(desk);
        desk.turn();
    });
    private static final Scene FIVE = new Scene("five patches", 3, 0, 0, 5, false, RefusalsTest::fivePatches);
    private static final Scene FIVE_AND_TASKS = new Scene("five patches, tasks", 3, 1, 1, 5, true, desk -> {
        fivePatches(desk);
        desk.task(0);
        draft(desk, 0, ADD, 3);
    });
    private static final Scene FIFTH_FORWARDS = new Scene("the fifth forwards", 3, 1, 1, 5, false, desk -> {
        program(desk);
        for (int i = 1; i <= 4; i++) {
            patch(desk, 2, ADD, i);
        }
        desk.task(0);
        patch(desk, 2, ADD, 5);
    });
    private static final Scene GONE = new Scene("gone", 3, 0, 0, 0, false, desk -> {
        program(desk);
        patch(desk, 0);
        desk.turn();
    });

    private static final Scene[] SCENES = {NEW, WRITTEN, DRAFTED, FULL, RUNNING, FOUR_TASKS, SIX_FRAMES, PATCHED,
        FORWARDS, BACKWARDS, FIVE, FIVE_AND_TASKS, FIFTH_FORWARDS, GONE};
    private static final boolean[] BOTH = {false, true};

    public static void main(String[] args) {
        for (Scene scene : SCENES) {
            scenesAreAsTheySay(scene);
            function(scene);
            operationOfNoFunction(scene);
            operationOfNoKind(scene);
            operationWithAWrongNumber(scene);
            operationOnAClosedBody(scene);
            name(scene);
            task(scene);
            step(scene);
            look(scene);
            frame(scene);
            body(scene);
        }
        operationOnAFullBody();
        nameTwice();
        applyOfNothing();
        applyOfAnotherSignature();
        applyInATransition();
        applyOfASixth();
        turnOfNothing();
        CHECK.end("RefusalsTest");
    }

    private static void program(PatchDesk desk) {
        functions(desk, 3);
        write(desk, 0, false, CALL, 1, SAFE, 0, OUT, 0);
        write(desk, 1, false, ADD, 7, CALL_WHEN, 2, REPEAT, 0);
        write(desk, 2, false, ADD, -4);
    }

    private static void twoTasks(PatchDesk desk) {
        program(desk);
        desk.task(0);
        desk.task(1);
        desk.step(0, 1);
    }

    /** Task 1 has gone over to patch 1, task 0 has not and has two frames. */
    private static void halfWay(PatchDesk desk) {
        twoTasks(desk);
        patch(desk, 2, ADD, 30);
        desk.step(1, 20);
    }

    private static void fivePatches(PatchDesk desk) {
        program(desk);
        for (int i = 1; i <= 5; i++) {
            patch(desk, 2, ADD, i);
        }
    }

    private static void scenesAreAsTheySay(Scene scene) {
        PatchDesk x = scene.desk();
        CHECK.is(scene.title + ": patches", x.patches(), scene.patches);
        CHECK.fails(scene.title + ": functions", Check.ARGUMENT, () -> x.body(scene.functions, 0));
        CHECK.fails(scene.title + ": tasks", Check.ARGUMENT, () -> x.look(scene.tasks, 0));
        if (scene.functions > 0) {
            CHECK.holds(scene.title + ": a last function", x.body(scene.functions - 1, 0) >= 0);
        }
        if (scene.tasks > 0) {
            CHECK.is(scene.title + ": a first task", x.look(0, FRAMES), scene.depth);
            CHECK.is(scene.title + ": a last task", x.look(scene.tasks - 1, FRAMES) > 0 ? 1 : 0, 1);
        }
        int target = scene == FORWARDS ? 1 : scene == BACKWARDS ? 0 : scene == FIFTH_FORWARDS ? 5 : -1;
        CHECK.is(scene.title + ": target", x.target(), target);
    }

    private static void function(Scene scene) {
        for (int signature : outside(0, 9)) {
            refused(scene, "function(" + signature + ")", Check.ARGUMENT, x -> x.function(signature));
        }
        if (scene.functions == 8 || scene.isInUse()) {
            refused(scene, "function(0)", Check.STATE, x -> x.function(0));
            refused(scene, "function(9)", Check.STATE, x -> x.function(9));
        }
    }

    private static void operationOfNoFunction(Scene scene) {
        for (boolean ofDraft : BOTH) {
            for (int function : outside(0, scene.functions - 1)) {
                refused(scene, "operation of function " + function, Check.ARGUMENT,
                        x -> x.operation(function, ofDraft, ADD, 1));
            }
        }
        for (int function = scene.hasDraft ? 1 : 0; function < scene.functions; function++) {
            int unnamed = function;
            refused(scene, "operation, not in the draft: " + function, Check.ARGUMENT,
                    x -> x.operation(unnamed, true, ADD, 1));
        }
    }

    private static void operationOfNoKind(Scene scene) {
        for (boolean ofDraft : BOTH) {
            for (int kind : outside(0, 5)) {
                refused(scene, "operation of kind " + kind, Check.ARGUMENT, x -> x.operation(0, ofDraft, kind, 0));
            }
        }
    }

    private static void operationWithAWrongNumber(Scene scene) {
        for (boolean ofDraft : BOTH) {
            for (int n : outside(-99, 99)) {
                refused(scene, "ADD " + n, Check.ARGUMENT, x -> x.operation(0, ofDraft, ADD, n));
            }
            for (int n : outside(0, scene.functions - 1)) {
                refused(scene, "CALL " + n, Check.ARGUMENT, x -> x.operation(0, ofDraft, CALL, n));
                refused(scene, "CALL WHEN " + n, Check.ARGUMENT, x -> x.operation(0, ofDraft, CALL_WHEN, n));
            }
            int ownPlace = ownPlace(scene, ofDraft);
            for (int n : outside(0, ownPlace)) {
                refused(scene, "REPEAT " + n + " at " + ownPlace, Check.ARGUMENT,
                        x -> x.operation(0, ofDraft, REPEAT, n));
            }
        }
    }

    /** Where the next operation of function 0 would stand. */
    private static int ownPlace(Scene scene, boolean ofDraft) {
        if (scene == FULL) {
            return 12;
        }
        if (ofDraft) {
            return scene.hasDraft ? 1 : 0;
        }
        return scene.functions == 0 ? 0 : scene.desk().body(0, 0);
    }

    private static void operationOnAClosedBody(Scene scene) {
        if (!scene.isInUse()) {
            return;
        }
        for (int kind = ADD; kind <= CALL_WHEN; kind++) {
            int done = kind;
            refused(scene, "operation of a first body, kind " + kind, Check.STATE,
                    x -> x.operation(0, false, done, 0));
        }
    }

    private static void operationOnAFullBody() {
        for (boolean ofDraft : BOTH) {
            for (int kind = ADD; kind <= CALL_WHEN; kind++) {
                int done = kind;
                refused(FULL, "a 13th operation, kind " + kind, Check.STATE, x -> x.operation(0, ofDraft, done, 0));
            }
        }
    }

    private static void name(Scene scene) {
        for (int function : outside(0, scene.functions - 1)) {
            refused(scene, "name(" + function + ", 0)", Check.ARGUMENT, x -> x.name(function, 0));
        }
        int free = scene.hasDraft ? 1 : 0;
        for (int signature : outside(0, 9)) {
            refused(scene, "name(" + free + ", " + signature + ")", Check.ARGUMENT, x -> x.name(free, signature));
        }
    }

    private static void nameTwice() {
        for (Scene scene : SCENES) {
            if (scene.hasDraft) {
                refused(scene, "name of a named one", Check.ARGUMENT, x -> x.name(0, 0));
                refused(scene, "name of a named one, otherwise", Check.ARGUMENT, x -> x.name(0, 9));
            }
        }
    }

    private static void applyOfNothing() {
        for (Scene scene : SCENES) {
            if (!scene.hasDraft) {
                refusedApply(scene, Check.ARGUMENT, x -> { });
            }
        }
    }

    private static void applyOfAnotherSignature() {
        for (Scene scene : new Scene[] {WRITTEN, RUNNING, PATCHED, FORWARDS, BACKWARDS, FIVE, FIFTH_FORWARDS, GONE}) {
            refusedApply(scene, Check.UNSUPPORTED, x -> x.name(0, 1));
            refusedApply(scene, Check.UNSUPPORTED, x -> x.name(2, 9));
            refusedApply(scene, Check.UNSUPPORTED, x -> {
                draft(x, 0, ADD, 1);
                x.name(1, 2);
                draft(x, 2, ADD, 1);
            });
            refusedApply(scene, Check.UNSUPPORTED, x -> {
                x.name(1, 1);
                x.name(0, 2);
            });
        }
    }

    private static void applyInATransition() {
        for (Scene scene : new Scene[] {FORWARDS, BACKWARDS, FIFTH_FORWARDS}) {
            refusedApply(scene, Check.STATE, x -> draft(x, 0, ADD, 1));
            refusedApply(scene, Check.STATE, x -> {
                draft(x, 2);
                draft(x, 1, SAFE, 0);
            });
        }
    }

    private static void applyOfASixth() {
        refusedApply(FIVE, Check.STATE, x -> draft(x, 0, ADD, 1));
        refusedApply(FIVE, Check.STATE, x -> draft(x, 2));
        Scene turnedForwardsAgain = new Scene("the fifth forwards again", 3, 1, 1, 5, false, desk -> {
            fivePatches(desk);
            desk.task(0);
            desk.turn();
            desk.turn();
        });
        scenesAreAsTheySay(turnedForwardsAgain);
        refusedApply(turnedForwardsAgain, Check.STATE, x -> draft(x, 2));
    }

    private static void turnOfNothing() {
        for (Scene scene : SCENES) {
            if (scene.patches == 0) {
                refused(scene, "turn()", Check.STATE, PatchDesk::turn);
            }
        }
    }

    private static void task(Scene scene) {
        for (int function : outside(0, scene.functions - 1)) {
            refused(scene, "task(" + function + ")", Check.ARGUMENT, x -> x.task(function));
        }
        if (scene.tasks == 4) {
            refused(scene, "a fifth task", Check.STATE, x -> x.task(0));
        }
    }

    private static void step(Scene scene) {
        for (int task : outside(0, scene.tasks - 1)) {
            refused(scene, "step(" + task + ", 1)", Check.ARGUMENT, x -> x.step(task, 1));
        }
        for (int steps : outside(1, 100)) {
            refused(scene, "step(0, " + steps + ")", Check.ARGUMENT, x -> x.step(0, steps));
        }
    }

    private static void look(Scene scene) {
        for (int task : outside(0, scene.tasks - 1)) {
            refused(scene, "look(" + task + ", 0)", Check.ARGUMENT, x -> x.look(task, 0));
        }
        for (int what : outside(0, 5)) {
            refused(scene, "look(0, " + what + ")", Check.ARGUMENT, x -> x.look(0, what));
        }
    }

    private static void frame(Scene scene) {
        for (int task : outside(0, scene.tasks - 1)) {
            refused(scene, "frame(" + task + ", 0, 0)", Check.ARGUMENT, x -> x.frame(task, 0, 0));
            refused(scene, "frame(" + task + ", 6, 0)", Check.ARGUMENT, x -> x.frame(task, 6, 0));
        }
        for (int what : outside(0, 2)) {
            refused(scene, "frame(0, 0, " + what + ")", Check.ARGUMENT, x -> x.frame(0, 0, what));
            refused(scene, "frame(0, 6, " + what + ")", Check.ARGUMENT, x -> x.frame(0, 6, what));
        }
        if (scene.tasks > 0) {
            for (int k : outside(0, scene.depth - 1)) {
                refused(scene, "frame(0, " + k + ", 0)", Check.ELEMENT, x -> x.frame(0, k, 0));
                refused(scene, "frame(0, " + k + ", 2)", Check.ELEMENT, x -> x.frame(0, k, 2));
            }
        }
    }

    private static void body(Scene scene) {
        for (int function : outside(0, scene.functions - 1)) {
            refused(scene, "body(" + function + ", 0)", Check.ARGUMENT, x -> x.body(function, 0));
            refused(scene, "body(" + function + ", 6)", Check.ARGUMENT, x -> x.body(function, 6));
        }
        if (scene.functions > 0) {
            for (int level : outside(0, scene.patches)) {
                refused(scene, "body(0, " + level + ")", Check.ELEMENT, x -> x.body(0, level));
            }
        }
    }

    /** Numbers next to a range and far from it, on both sides. */
    private static int[] outside(int first, int last) {
        return new int[] {first - 1, last + 1, first - 50, last + 50, Integer.MIN_VALUE, Integer.MAX_VALUE};
    }

    private static void refused(Scene scene, String call, Class<? extends RuntimeException> want,
            ToIntFunction<PatchDesk> refusedCall) {
        PatchDesk x = scene.desk();
        CHECK.fails(scene.title + ": " + call, want, () -> refusedCall.applyAsInt(x));
        sameAfterwards(scene.title + ": behind " + call, x, scene.desk());
    }

    private static void refusedApply(Scene scene, Class<? extends RuntimeException> want, Consumer<PatchDesk> draft) {
        PatchDesk x = scene.desk();
        draft.accept(x);
        CHECK.fails(scene.title + ": apply()", want, x::apply);
        sameAfterwards(scene.title + ": behind apply()", x, scene.desk());

        PatchDesk y = scene.desk();
        draft.accept(y);
        CHECK.fails(scene.title + ": apply()", want, y::apply);
        CHECK.fails(scene.title + ": the draft is empty behind it", Check.ARGUMENT, y::apply);
        for (int function = 0; function < scene.functions; function++) {
            CHECK.is(scene.title + ": and names them one by one again", y.name(function, function), function + 1);
            CHECK.is(scene.title + ": with empty bodies", y.operation(function, true, SAFE, 0), 1);
        }
    }

    private static void sameAfterwards(String what, PatchDesk x, PatchDesk twin) {
        List<String> got = afterwards(x);
        List<String> due = afterwards(twin);
        int at = 0;
        while (at < due.size() && got.get(at).equals(due.get(at))) {
            at++;
        }
        boolean same = at == due.size();
        CHECK.holds(what + (same ? "" : ": " + got.get(at) + " is due as " + due.get(at)), same);
    }

    /** What some hundreds of calls answer that together show every part of a desk's state. */
    private static List<String> afterwards(PatchDesk x) {
        List<String> answers = new ArrayList<>();
        seeAll(x, answers);
        for (int i = 0; i < 8; i++) {
            int f = i;
            tell(answers, "operation of the draft " + f, () -> x.operation(f, true, ADD, f));
        }
        tell(answers, "function", () -> x.function(8));
        tell(answers, "operation", () -> x.operation(0, false, OUT, 0));
        tell(answers, "turn", x::turn);
        tell(answers, "step a task", () -> x.step(0, 3));
        tell(answers, "turn", x::turn);
        for (int i = 0; i < 8; i++) {
            int f = i;
            tell(answers, "name " + f, () -> x.name(f, f));
        }
        tell(answers, "apply", x::apply);
        tell(answers, "target", x::target);
        tell(answers, "task", () -> x.task(0));
        for (int i = 0; i < 12; i++) {
            int t = i % 4;
            tell(answers, "step task " + t, () -> x.step(t, 9));
        }
        seeAll(x, answers);
        return answers;
    }

    private static void seeAll(PatchDesk x, List<String> answers) {
        tell(answers, "patches", x::patches);
        tell(answers, "target", x::target);
        for (int i = 0; i < 8; i++) {
            int f = i;
            for (int j = 0; j < 6; j++) {
                int level = j;
                tell(answers, "body " + f + " at " + level, () -> x.body(f, level));
            }
        }
        for (int i = 0; i < 4; i++) {
            int t = i;
            for (int j = 0; j < 6; j++) {
                int k = j;
                tell(answers, "look " + t + ", " + k, () -> x.look(t, k));
                tell(answers, "frame " + t + ", " + k, () -> x.frame(t, k, OF) * 100
                        + x.frame(t, k, CALLED_AT) * 20 + x.frame(t, k, PLACE));
            }
        }
    }

    private static void tell(List<String> answers, String call, IntSupplier asked) {
        String answer;
        try {
            answer = Integer.toString(asked.getAsInt());
        } catch (RuntimeException e) {
            answer = e.getClass().getSimpleName();
        }
        answers.add(call + " answers " + answer);
    }
}
