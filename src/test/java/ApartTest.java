/** What does not touch one another: tasks that are stepped by turns, frames of one function, desks, calls that look. */
public final class ApartTest extends Desks {
    public static void main(String[] args) {
        tasksByTurnsAreAsAlone();
        aTaskHasItsOwnSum();
        aTaskHasItsOwnLevel();
        framesOfOneFunction();
        aPatchedBodyCalls();
        aPatchedBodyIsEmpty();
        desksByTurns();
        aDeskHasItsOwnDraft();
        lookingChangesNothing();
        CHECK.end("ApartTest");
    }

    /** Function 0 does everything once; function 1 is called with an even sum and has a REPEAT. */
    private static PatchDesk program() {
        PatchDesk desk = desk(3);
        write(desk, 0, false, ADD, 3, CALL, 1, OUT, 0, SAFE, 0, REPEAT, 1, CALL_WHEN, 0);
        write(desk, 1, false, ADD, 5, CALL_WHEN, 2, REPEAT, 0);
        write(desk, 2, false, ADD, -7, OUT, 0);
        return desk;
    }

    private static void tasksByTurnsAreAsAlone() {
        PatchDesk both = program();
        PatchDesk alone = program();
        both.task(0);
        both.task(1);
        both.task(0);
        alone.task(1);
        for (int turn = 1; turn <= 60; turn++) {
            both.step(0, 1 + turn % 3);
            both.step(1, 1);
            both.step(2, 1 + turn % 2);
            alone.step(0, 1);
            if (turn % 6 == 0) {
                sameTask("by turns, step " + turn, both, 1, alone, 0);
            }
        }
        PatchDesk first = program();
        first.task(0);
        for (int step = 1; step <= 120; step++) {
            first.step(0, 1);
        }
        sameTask("by turns: the first of three", both, 0, first, 0);
    }

    private static void sameTask(String what, PatchDesk x, int task, PatchDesk y, int twin) {
        for (int k = LEVEL; k <= LATEST; k++) {
            CHECK.is(what + ": what " + k, x.look(task, k), y.look(twin, k));
        }
        for (int k = 0; k < y.look(twin, FRAMES); k++) {
            for (int part = OF; part <= PLACE; part++) {
                CHECK.is(what + ": frame " + k + ", " + part, x.frame(task, k, part), y.frame(twin, k, part));
            }
        }
    }

    private static void aTaskHasItsOwnSum() {
        PatchDesk x = desk(2);
        write(x, 0, false, ADD, 1, CALL_WHEN, 1, OUT, 0);
        for (int i = 0; i < 4; i++) {
            x.task(0);
        }
        x.step(1, 1);
        x.step(3, 4);
        int[] sums = {0, 1, 0, 1};
        int[] steps = {0, 1, 0, 4};
        int[] outs = {0, 0, 0, 1};
        for (int i = 0; i < 4; i++) {
            CHECK.is("own sum of task " + i, x.look(i, SUM), sums[i]);
            CHECK.is("own steps of task " + i, x.look(i, STEPS), steps[i]);
            CHECK.is("own numbers out of task " + i, x.look(i, OUTS), outs[i]);
            CHECK.is("own latest of task " + i, x.look(i, LATEST), outs[i]);
        }
        x.step(3, 2);
        CHECK.is("its own sum is even: called", x.look(3, FRAMES), 2);
        x.step(1, 1);
        CHECK.is("its own sum is odd: not called", x.look(1, FRAMES), 1);
    }

    private static void aTaskHasItsOwnLevel() {
        PatchDesk x = desk(2);
        write(x, 0, false, CALL, 1);
        write(x, 1, false, ADD, 1);
        x.task(0);
        x.task(0);
        patch(x, 1, ADD, 10);
        x.step(0, 3);
        CHECK.is("own level: task 0 goes over", x.step(0, 1), 1);
        x.step(0, 2);
        x.step(1, 2);
        CHECK.is("own level: task 0", x.look(0, LEVEL), 1);
        CHECK.is("own level: task 1", x.look(1, LEVEL), 0);
        CHECK.is("own level: the patch's body for task 0", x.look(0, SUM), 11);
        CHECK.is("own level: the first body for task 1", x.look(1, SUM), 1);
        CHECK.is("own level: called at 1", x.frame(0, 1, CALLED_AT), 1);
        CHECK.is("own level: called at 0", x.frame(1, 1, CALLED_AT), 0);
    }

    private static void framesOfOneFunction() {
        PatchDesk x = desk(1);
        write(x, 0, false, ADD, 1, REPEAT, 0, CALL, 0, OUT, 0);
        x.task(0);
        int[] places = {3, 3, 3, 3, 3, 0};
        // Eight steps of ADDs and REPEATs and the CALL, five times.
        for (int i = 0; i < 45; i++) {
            x.step(0, 1);
        }
        CHECK.is("frames of one function: six", x.look(0, FRAMES), 6);
        for (int k = 0; k < 6; k++) {
            CHECK.is("frames of one function: own place of " + k, x.frame(0, k, PLACE), places[k]);
        }
        CHECK.is("frames of one function: each repeats three times", x.look(0, SUM), 20);
        x.step(0, 11);
        CHECK.is("frames of one function: the sixth returned", x.look(0, FRAMES), 5);
        CHECK.is("frames of one function: its sum", x.look(0, LATEST), 24);
        CHECK.is("frames of one function: the fifth is where it was", x.frame(0, 4, PLACE), 3);
    }

    private static void aPatchedBodyCalls() {
        PatchDesk x = desk(3);
        write(x, 0, false, CALL, 1);
        write(x, 2, false, ADD, 2);
        x.name(1, 1);
        x.name(2, 2);
        write(x, 1, true, CALL, 2, CALL_WHEN, 2, CALL_WHEN, 0, OUT, 0);
        write(x, 2, true, ADD, 31);
        x.apply();
        x.task(0);
        x.step(0, 3);
        CHECK.is("a patch's body calls a patched one", x.look(0, SUM), 31);
        x.step(0, 4);
        CHECK.is("a patch's body does CALL WHEN", x.look(0, OUTS), 1);
        CHECK.is("a patch's body puts out", x.look(0, LATEST), 31);
    }

    private static void aPatchedBodyIsEmpty() {
        PatchDesk x = desk(2);
        write(x, 0, false, CALL, 1, ADD, 1);
        write(x, 1, false, ADD, 50);
        patch(x, 1);
        CHECK.is("an empty body of a patch: at its level", x.body(1, 1), 0);
        CHECK.is("an empty body of a patch: not below", x.body(1, 0), 1);
        x.task(0);
        x.step(0, 2);
        CHECK.is("an empty body of a patch: returns at once", x.look(0, FRAMES), 1);
        CHECK.is("an empty body of a patch: adds nothing", x.look(0, SUM), 0);
    }

    private static void desksByTurns() {
        PatchDesk x = program();
        PatchDesk y = program();
        x.task(0);
        y.task(0);
        x.step(0, 4);
        patch(x, 1, ADD, 1);
        CHECK.is("another desk: no patch", y.patches(), 0);
        CHECK.is("another desk: no transition", y.target(), -1);
        CHECK.is("another desk: no step", y.look(0, STEPS), 0);
        CHECK.is("another desk: no second task of it", y.task(0), 1);
        CHECK.fails("the first desk: none either", Check.ARGUMENT, () -> x.look(1, STEPS));
        CHECK.fails("another desk: nothing to turn", Check.STATE, y::turn);
        CHECK.is("another desk: its own first patch", patch(y, 2), 1);
        CHECK.is("the first desk: its own body", x.body(1, 1), 1);
        CHECK.is("another desk: its own body", y.body(1, 1), 3);
    }

    private static void aDeskHasItsOwnDraft() {
        PatchDesk x = program();
        PatchDesk y = program();
        CHECK.is("own draft: of the first", x.name(1, 1), 1);
        CHECK.fails("own draft: not of the other", Check.ARGUMENT, () -> y.operation(1, true, ADD, 1));
        CHECK.fails("own draft: empty in the other", Check.ARGUMENT, y::apply);
        CHECK.is("own draft: still there in the first", x.operation(1, true, ADD, 1), 1);
        CHECK.is("own draft: applied in the first", x.apply(), 1);
        CHECK.is("own functions: the other may have more", y.function(9), 3);
        CHECK.fails("own functions: the first may not", Check.STATE, () -> x.function(9));
    }

    private static void lookingChangesNothing() {
        PatchDesk seen = program();
        PatchDesk unseen = program();
        lookAtAll(seen);
        for (PatchDesk desk : new PatchDesk[] {seen, unseen}) {
            desk.task(0);
            draft(desk, 1, ADD, 4);
        }
        lookAtAll(seen);
        CHECK.is("looked at: the draft is the same", seen.operation(1, true, SAFE, 0),
                unseen.operation(1, true, SAFE, 0));
        CHECK.is("looked at: the patch is the same", seen.apply(), unseen.apply());
        for (int turn = 1; turn <= 8; turn++) {
            lookAtAll(seen);
            sameTask("looked at twice, turn " + turn, seen, 0, seen, 0);
            CHECK.is("looked at: step, turn " + turn, seen.step(0, 9), unseen.step(0, 9));
        }
        sameTask("looked at", seen, 0, unseen, 0);
        CHECK.is("looked at: target", seen.target(), unseen.target());
        CHECK.is("looked at: turned back", seen.turn(), unseen.turn());
        lookAtAll(seen);
        CHECK.is("looked at: step back", seen.step(0, 100), unseen.step(0, 100));
        sameTask("looked at, back", seen, 0, unseen, 0);
        CHECK.is("looked at: patches", seen.patches(), unseen.patches());
    }

    private static void lookAtAll(PatchDesk desk) {
        int level = desk.patches();
        CHECK.holds("looked at: patches and target", desk.patches() == level && desk.target() <= level);
        for (int function = 0; function < 3; function++) {
            CHECK.is("looked at: body", desk.body(function, level), desk.body(function, level));
        }
    }
}
