/** Each promise by itself: ordinary inputs, the edges that the document names, wrong inputs. */
public final class PromisesTest extends Desks {
    public static void main(String[] args) {
        newObject();
        function();
        functionWhileInUse();
        operationOfFirstBody();
        operationNumbers();
        operationOfDraft();
        operationFull();
        name();
        applyRefused();
        applyOrderOfRefusals();
        applyFivePatches();
        turnWithoutTasks();
        turnHalfWay();
        turnBackwardsRound();
        turnRefused();
        task();
        taskInTransition();
        stepOperations();
        stepRepeat();
        stepCallWhen();
        stepSixFrames();
        stepReturns();
        stepRefused();
        goesOverAtReturn();
        goesOverAtSafe();
        goesOverOnlyWhenNothingPatchedIsOpen();
        goesOverOnlyWhenFirstFrameIsNotPatched();
        goesOverByLatestPatchAlone();
        goesOverBackwards();
        untouchedTaskHoldsTransition();
        frameKeepsBody();
        frameKeepsBodyOfGoneLevel();
        look();
        frame();
        patches();
        target();
        body();
        CHECK.end("PromisesTest");
    }

    private static void newObject() {
        PatchDesk x = new PatchDesk();
        CHECK.is("1: patches of a new object", x.patches(), 0);
        CHECK.is("1: target of a new object", x.target(), -1);
        CHECK.fails("1: no function 0", Check.ARGUMENT, () -> x.body(0, 0));
        CHECK.fails("1: no task 0", Check.ARGUMENT, () -> x.look(0, 0));
        CHECK.fails("1: the draft names nothing", Check.ARGUMENT, x::apply);
        CHECK.is("1: first function", x.function(0), 0);
        CHECK.is("1: a second object is another one", new PatchDesk().function(0), 0);
    }

    private static void function() {
        PatchDesk x = new PatchDesk();
        CHECK.fails("2: signature -1", Check.ARGUMENT, () -> x.function(-1));
        CHECK.fails("2: signature 10", Check.ARGUMENT, () -> x.function(10));
        CHECK.fails("2: least signature", Check.ARGUMENT, () -> x.function(Integer.MIN_VALUE));
        for (int i = 0; i < 8; i++) {
            CHECK.is("2: function", x.function(i == 7 ? 9 : i), i);
            CHECK.is("2: an empty body", x.body(i, 0), 0);
        }
        CHECK.fails("2: a ninth", Check.STATE, () -> x.function(0));
        CHECK.fails("2: a ninth with a wrong signature", Check.ARGUMENT, () -> x.function(10));
    }

    private static void functionWhileInUse() {
        PatchDesk x = desk(1);
        x.name(0, 0);
        CHECK.is("2: a draft is no patch yet", x.function(1), 1);
        x.apply();
        CHECK.fails("2: there is a patch", Check.STATE, () -> x.function(0));
        CHECK.fails("2: wrong signature goes first", Check.ARGUMENT, () -> x.function(10));
        x.turn();
        CHECK.is("2: the patch is gone", x.function(2), 2);
        x.task(0);
        CHECK.fails("2: there is a task", Check.STATE, () -> x.function(0));
        CHECK.fails("2: and no signature", Check.ARGUMENT, () -> x.function(-1));
    }

    private static void operationOfFirstBody() {
        PatchDesk x = desk(2);
        CHECK.is("3: first operation", x.operation(1, false, ADD, 1), 1);
        CHECK.is("3: second operation", x.operation(1, false, SAFE, 1), 2);
        CHECK.is("3: of another body", x.operation(0, false, OUT, 0), 1);
        CHECK.fails("3: function 2", Check.ARGUMENT, () -> x.operation(2, false, ADD, 1));
        CHECK.fails("3: function -1", Check.ARGUMENT, () -> x.operation(-1, false, ADD, 1));
        CHECK.fails("3: kind -1", Check.ARGUMENT, () -> x.operation(0, false, -1, 0));
        CHECK.fails("3: kind 6", Check.ARGUMENT, () -> x.operation(0, false, 6, 0));
        patch(x, 0);
        CHECK.fails("3: there is a patch", Check.STATE, () -> x.operation(0, false, ADD, 1));
        x.turn();
        CHECK.is("3: the patch is gone", x.operation(0, false, ADD, 1), 2);
        x.task(0);
        CHECK.fails("3: there is a task", Check.STATE, () -> x.operation(0, false, ADD, 1));
        CHECK.fails("3: wrong function goes first", Check.ARGUMENT, () -> x.operation(2, false, ADD, 1));
        CHECK.fails("3: wrong kind goes first", Check.ARGUMENT, () -> x.operation(0, false, 6, 1));
        CHECK.fails("3: wrong n goes first", Check.ARGUMENT, () -> x.operation(0, false, ADD, 100));
        CHECK.is("3: a refusal writes nothing", x.body(0, 0), 2);
    }

    private static void operationNumbers() {
        PatchDesk x = desk(2);
        CHECK.fails("3: ADD 100", Check.ARGUMENT, () -> x.operation(0, false, ADD, 100));
        CHECK.fails("3: ADD -100", Check.ARGUMENT, () -> x.operation(0, false, ADD, -100));
        CHECK.fails("3: CALL 2", Check.ARGUMENT, () -> x.operation(0, false, CALL, 2));
        CHECK.fails("3: CALL -1", Check.ARGUMENT, () -> x.operation(0, false, CALL, -1));
        CHECK.fails("3: CALL WHEN 2", Check.ARGUMENT, () -> x.operation(0, false, CALL_WHEN, 2));
        CHECK.fails("3: CALL WHEN -1", Check.ARGUMENT, () -> x.operation(0, false, CALL_WHEN, -1));
        CHECK.fails("3: REPEAT 1 as the first", Check.ARGUMENT, () -> x.operation(0, false, REPEAT, 1));
        CHECK.fails("3: REPEAT -1", Check.ARGUMENT, () -> x.operation(0, false, REPEAT, -1));
        CHECK.is("3: REPEAT of its own place", x.operation(0, false, REPEAT, 0), 1);
        CHECK.is("3: REPEAT of a place before", x.operation(0, false, REPEAT, 0), 2);
        CHECK.is("3: REPEAT of its own place again", x.operation(0, false, REPEAT, 2), 3);
        CHECK.fails("3: REPEAT behind its own place", Check.ARGUMENT, () -> x.operation(0, false, REPEAT, 4));
        CHECK.is("3: ADD 99", x.operation(0, false, ADD, 99), 4);
        CHECK.is("3: ADD -99", x.operation(0, false, ADD, -99), 5);
        CHECK.is("3: CALL of itself", x.operation(0, false, CALL, 0), 6);
        CHECK.is("3: CALL WHEN 1", x.operation(0, false, CALL_WHEN, 1), 7);
        CHECK.is("3: SAFE asks nothing of n", x.operation(0, false, SAFE, Integer.MAX_VALUE), 8);
        CHECK.is("3: OUT asks nothing of n", x.operation(0, false, OUT, Integer.MIN_VALUE), 9);
    }

    private static void operationOfDraft() {
        PatchDesk x = desk(2);
        write(x, 0, false, ADD, 1, ADD, 2);
        CHECK.fails("3: not in the draft", Check.ARGUMENT, () -> x.operation(0, true, ADD, 1));
        x.name(0, 0);
        CHECK.fails("3: another one not in the draft", Check.ARGUMENT, () -> x.operation(1, true, ADD, 1));
        CHECK.fails("3: no such function in the draft", Check.ARGUMENT, () -> x.operation(2, true, ADD, 1));
        CHECK.fails("3: REPEAT looks at the draft's body", Check.ARGUMENT, () -> x.operation(0, true, REPEAT, 1));
        CHECK.is("3: of the draft", x.operation(0, true, REPEAT, 0), 1);
        CHECK.is("3: the first body is another one", x.body(0, 0), 2);
        x.task(0);
        CHECK.is("3: the draft with a task", x.operation(0, true, ADD, 1), 2);
        x.apply();
        CHECK.fails("3: the draft is empty again", Check.ARGUMENT, () -> x.operation(0, true, ADD, 1));
        x.name(0, 0);
        CHECK.is("3: the draft with a patch in transition", x.operation(0, true, SAFE, 0), 1);
        CHECK.is("3: the applied body is another one", x.body(0, 1), 2);
        CHECK.fails("3: wrong n in the draft", Check.ARGUMENT, () -> x.operation(0, true, ADD, -100));
    }

    private static void operationFull() {
        PatchDesk x = desk(1);
        x.name(0, 0);
        for (int i = 1; i <= 12; i++) {
            CHECK.is("3: up to 12", x.operation(0, false, ADD, i), i);
            CHECK.is("3: up to 12 in the draft", x.operation(0, true, ADD, i), i);
        }
        CHECK.fails("3: a 13th", Check.STATE, () -> x.operation(0, false, ADD, 1));
        CHECK.fails("3: a 13th in the draft", Check.STATE, () -> x.operation(0, true, ADD, 1));
        CHECK.fails("3: a 13th of no kind", Check.ARGUMENT, () -> x.operation(0, false, 6, 1));
        CHECK.fails("3: a 13th with a wrong n", Check.ARGUMENT, () -> x.operation(0, true, ADD, 100));
        CHECK.is("3: still 12", x.body(0, 0), 12);
    }

    private static void name() {
        PatchDesk x = desk(3);
        CHECK.fails("4: function 3", Check.ARGUMENT, () -> x.name(3, 0));
        CHECK.fails("4: function -1", Check.ARGUMENT, () -> x.name(-1, 0));
        CHECK.fails("4: signature -1", Check.ARGUMENT, () -> x.name(0, -1));
        CHECK.fails("4: signature 10", Check.ARGUMENT, () -> x.name(0, 10));
        CHECK.is("4: the first", x.name(2, 2), 1);
        CHECK.is("4: any signature", x.name(0, 9), 2);
        CHECK.fails("4: named already", Check.ARGUMENT, () -> x.name(2, 2));
        CHECK.is("4: the third", x.name(1, 0), 3);
        CHECK.fails("4: the signatures count at apply", Check.UNSUPPORTED, x::apply);
        CHECK.is("4: an empty draft again", x.name(2, 2), 1);
        x.task(0);
        x.apply();
        CHECK.is("4: in a transition", x.name(2, 2), 1);
        x.turn();
        CHECK.is("4: turning leaves the draft", x.name(0, 0), 2);
        CHECK.is("4: with an empty body", x.operation(0, true, ADD, 1), 1);
    }

    private static void applyRefused() {
        PatchDesk x = desk(2);
        CHECK.fails("5: an empty draft", Check.ARGUMENT, x::apply);
        x.name(1, 1);
        x.name(0, 1);
        CHECK.fails("5: another signature", Check.UNSUPPORTED, x::apply);
        CHECK.is("5: no patch came of it", x.patches(), 0);
        x.name(0, 0);
        x.name(1, 0);
        CHECK.fails("5: another signature of the other one", Check.UNSUPPORTED, x::apply);
        CHECK.fails("5: the draft is empty behind it", Check.ARGUMENT, x::apply);
        x.task(0);
        CHECK.is("5: patch 1", patch(x, 1, ADD, 1), 1);
        CHECK.is("5: its target", x.target(), 1);
        CHECK.fails("5: the draft is empty behind an applied one", Check.ARGUMENT, x::apply);
        x.name(0, 0);
        CHECK.fails("5: a transition goes on", Check.STATE, x::apply);
        CHECK.is("5: the target stays", x.target(), 1);
        CHECK.is("5: the draft is empty there too", x.name(0, 0), 1);
        x.step(0, 1);
        x.turn();
        x.name(1, 1);
        CHECK.fails("5: a transition backwards goes on", Check.STATE, x::apply);
        x.step(0, 1);
        CHECK.is("5: number 1 again", patch(x, 0), 1);
    }

    private static void applyOrderOfRefusals() {
        PatchDesk x = desk(1);
        x.task(0);
        patch(x, 0);
        CHECK.fails("5: empty in a transition", Check.ARGUMENT, x::apply);
        x.name(0, 5);
        CHECK.fails("5: another signature in a transition", Check.UNSUPPORTED, x::apply);
    }

    private static void applyFivePatches() {
        PatchDesk x = desk(1);
        for (int i = 1; i <= 5; i++) {
            CHECK.is("5: patch by patch", patch(x, 0), i);
            CHECK.is("5: over at once without tasks", x.target(), -1);
        }
        x.name(0, 0);
        CHECK.fails("5: a sixth", Check.STATE, x::apply);
        CHECK.fails("5: a sixth, empty", Check.ARGUMENT, x::apply);
        x.name(0, 1);
        CHECK.fails("5: a sixth with another signature", Check.UNSUPPORTED, x::apply);
        CHECK.is("5: still 5", x.patches(), 5);
        x.turn();
        CHECK.is("5: number 5 again", patch(x, 0), 5);
    }

    private static void turnWithoutTasks() {
        PatchDesk x = desk(1);
        patch(x, 0, ADD, 1);
        patch(x, 0, ADD, 1, ADD, 2);
        CHECK.is("6: back to 1", x.turn(), 1);
        CHECK.is("6: over at once", x.target(), -1);
        CHECK.is("6: gone", x.patches(), 1);
        CHECK.is("6: back to 0", x.turn(), 0);
        CHECK.is("6: all gone", x.patches(), 0);
        CHECK.fails("6: neither", Check.STATE, x::turn);
    }

    private static void turnHalfWay() {
        PatchDesk x = desk(1);
        x.task(0);
        x.task(0);
        patch(x, 0);
        x.step(0, 1);
        CHECK.is("6: one has gone over", x.target(), 1);
        CHECK.is("6: round, backwards", x.turn(), 0);
        CHECK.is("6: it goes on", x.target(), 0);
        CHECK.is("6: the patch is still there", x.patches(), 1);
        CHECK.is("6: who is at the target does not go over", x.step(1, 3), 0);
        CHECK.is("6: round again, forwards", x.turn(), 1);
        CHECK.is("6: now the other one goes over", x.step(1, 3), 1);
        CHECK.is("6: over forwards", x.target(), -1);
        CHECK.is("6: the patch stays", x.patches(), 1);
        CHECK.is("6: the latest patch back", x.turn(), 0);
        CHECK.is("6: no task is there yet", x.target(), 0);
        CHECK.is("6: forwards, where all tasks are", x.turn(), 1);
        CHECK.is("6: so it is over", x.target(), -1);
        CHECK.is("6: with its patch", x.patches(), 1);
    }

    private static void turnBackwardsRound() {
        PatchDesk x = desk(1);
        x.task(0);
        patch(x, 0);
        CHECK.is("6: round before anyone went over", x.turn(), 0);
        CHECK.is("6: over at once, backwards", x.target(), -1);
        CHECK.is("6: the patch is gone at once", x.patches(), 0);
        CHECK.is("6: the task stays where it was", x.look(0, LEVEL), 0);
    }

    private static void turnRefused() {
        PatchDesk x = desk(1);
        CHECK.fails("6: nothing at first", Check.STATE, x::turn);
        x.task(0);
        x.name(0, 0);
        CHECK.fails("6: a draft is no patch", Check.STATE, x::turn);
    }

    private static void task() {
        PatchDesk x = desk(2);
        CHECK.fails("7: function 2", Check.ARGUMENT, () -> x.task(2));
        CHECK.fails("7: function -1", Check.ARGUMENT, () -> x.task(-1));
        for (int i = 0; i < 4; i++) {
            CHECK.is("7: task", x.task(i % 2), i);
            CHECK.is("7: its only frame", x.look(i, FRAMES), 1);
            CHECK.is("7: its function", x.frame(i, 0, OF), i % 2);
            CHECK.is("7: its place", x.frame(i, 0, PLACE), 0);
        }
        CHECK.fails("7: a fifth", Check.STATE, () -> x.task(0));
        CHECK.fails("7: a fifth of no function", Check.ARGUMENT, () -> x.task(2));
    }

    private static void taskInTransition() {
        PatchDesk x = desk(1);
        write(x, 0, false, ADD, 1);
        patch(x, 0, ADD, 10);
        CHECK.is("7: behind a patch", x.task(0), 0);
        CHECK.is("7: at its level", x.look(0, LEVEL), 1);
        CHECK.is("7: its frame too", x.frame(0, 0, CALLED_AT), 1);
        x.step(0, 1);
        CHECK.is("7: with the patch's body", x.look(0, SUM), 10);
        patch(x, 0, ADD, 20);
        x.task(0);
        CHECK.is("7: at the target forwards", x.look(1, LEVEL), 2);
        x.step(1, 1);
        CHECK.is("7: with the target's body", x.look(1, SUM), 20);
        x.turn();
        x.task(0);
        CHECK.is("7: at the target backwards", x.look(2, LEVEL), 1);
        x.step(2, 1);
        CHECK.is("7: with the body of before", x.look(2, SUM), 10);
        CHECK.is("7: the transition goes on", x.target(), 1);
    }

    private static void stepOperations() {
        PatchDesk x = desk(2);
        write(x, 0, false, ADD, 7, CALL, 1, SAFE, 5, OUT, 5);
        write(x, 1, false, ADD, -9);
        x.task(0);
        x.step(0, 1);
        CHECK.is("8: ADD", x.look(0, SUM), 7);
        x.step(0, 1);
        CHECK.is("8: CALL opens a frame", x.look(0, FRAMES), 2);
        CHECK.is("8: behind the CALL", x.frame(0, 0, PLACE), 2);
        CHECK.is("8: at the start", x.frame(0, 1, PLACE), 0);
        x.step(0, 1);
        CHECK.is("8: ADD of less than 0", x.look(0, SUM), -2);
        CHECK.is("8: the end is no return yet", x.look(0, FRAMES), 2);
        x.step(0, 1);
        CHECK.is("8: a return is a step", x.look(0, FRAMES), 1);
        CHECK.is("8: it goes on behind the CALL", x.frame(0, 0, PLACE), 2);
        x.step(0, 1);
        CHECK.is("8: SAFE does nothing", x.look(0, SUM), -2);
        CHECK.is("8: but is passed", x.frame(0, 0, PLACE), 3);
        CHECK.is("8: nothing out yet", x.look(0, OUTS), 0);
        x.step(0, 1);
        CHECK.is("8: OUT", x.look(0, LATEST), -2);
        CHECK.is("8: six steps", x.look(0, STEPS), 6);
    }

    private static void stepRepeat() {
        PatchDesk x = desk(2);
        write(x, 0, false, ADD, 1, REPEAT, 0, REPEAT, 1, CALL, 1);
        write(x, 1, false, ADD, 50, REPEAT, 1);
        x.task(0);
        x.step(0, 2);
        CHECK.is("8: REPEAT goes back", x.frame(0, 0, PLACE), 0);
        x.step(0, 5);
        CHECK.is("8: three times back, so ADD 1 four times", x.look(0, SUM), 4);
        x.step(0, 1);
        CHECK.is("8: a fourth REPEAT is passed over", x.frame(0, 0, PLACE), 2);
        x.step(0, 1);
        CHECK.is("8: the REPEATs of a frame are counted together", x.frame(0, 0, PLACE), 3);
        x.step(0, 1);
        CHECK.is("8: the CALL", x.look(0, FRAMES), 2);
        x.step(0, 4);
        CHECK.is("8: a frame of its own counts anew, on its own place", x.frame(0, 1, PLACE), 1);
        x.step(0, 1);
        CHECK.is("8: then it is passed over", x.frame(0, 1, PLACE), 2);
        x.step(0, 2);
        CHECK.is("8: called again", x.frame(0, 0, PLACE), 0);
        x.step(0, 2);
        CHECK.is("8: and counts anew", x.frame(0, 0, PLACE), 0);
    }

    private static void stepCallWhen() {
        PatchDesk x = desk(2);
        write(x, 0, false, CALL_WHEN, 1, ADD, -3, CALL_WHEN, 1, ADD, -3, CALL_WHEN, 1);
        x.task(0);
        x.step(0, 1);
        CHECK.is("8: 0 is even", x.look(0, FRAMES), 2);
        x.step(0, 3);
        CHECK.is("8: -3 is odd", x.look(0, FRAMES), 1);
        CHECK.is("8: passed over", x.frame(0, 0, PLACE), 3);
        x.step(0, 2);
        CHECK.is("8: -6 is even", x.look(0, FRAMES), 2);
    }

    private static void stepSixFrames() {
        PatchDesk x = desk(1);
        write(x, 0, false, CALL, 0, CALL_WHEN, 0, ADD, 1);
        x.task(0);
        x.step(0, 5);
        CHECK.is("8: six frames", x.look(0, FRAMES), 6);
        x.step(0, 1);
        CHECK.is("8: a seventh is passed over", x.look(0, FRAMES), 6);
        CHECK.is("8: and the place goes on", x.frame(0, 5, PLACE), 1);
        x.step(0, 1);
        CHECK.is("8: CALL WHEN, too", x.look(0, FRAMES), 6);
        CHECK.is("8: and its place goes on", x.frame(0, 5, PLACE), 2);
        CHECK.is("8: they are steps", x.look(0, STEPS), 7);
        x.step(0, 3);
        CHECK.is("8: 1 is odd for the frame below", x.look(0, FRAMES), 5);
    }

    private static void stepReturns() {
        PatchDesk x = desk(2);
        write(x, 0, false, CALL, 1, ADD, 1);
        x.task(0);
        x.task(1);
        x.step(1, 100);
        CHECK.is("8: an empty body only returns", x.look(1, STEPS), 100);
        CHECK.is("8: and stands at its start", x.frame(1, 0, PLACE), 0);
        CHECK.is("8: the other task stood still", x.look(0, STEPS), 0);
        x.step(0, 3);
        CHECK.is("8: at the end", x.frame(0, 0, PLACE), 2);
        x.step(0, 1);
        CHECK.is("8: the only frame is called again", x.look(0, FRAMES), 1);
        CHECK.is("8: at its start", x.frame(0, 0, PLACE), 0);
        CHECK.is("8: the sum stays", x.look(0, SUM), 1);
    }

    private static void stepRefused() {
        PatchDesk x = desk(1);
        CHECK.fails("8: no task", Check.ARGUMENT, () -> x.step(0, 1));
        x.task(0);
        CHECK.fails("8: task 1", Check.ARGUMENT, () -> x.step(1, 1));
        CHECK.fails("8: task -1", Check.ARGUMENT, () -> x.step(-1, 1));
        CHECK.fails("8: no steps", Check.ARGUMENT, () -> x.step(0, 0));
        CHECK.fails("8: steps -1", Check.ARGUMENT, () -> x.step(0, -1));
        CHECK.fails("8: 101 steps", Check.ARGUMENT, () -> x.step(0, 101));
        CHECK.is("8: nothing was done", x.look(0, STEPS), 0);
        CHECK.is("8: 100 steps", x.step(0, 100), 0);
        CHECK.is("8: 1 step", x.step(0, 1), 0);
        CHECK.is("8: were done", x.look(0, STEPS), 101);
    }

    private static void goesOverAtReturn() {
        PatchDesk x = desk(2);
        write(x, 0, false, ADD, 1, CALL, 1);
        x.task(0);
        x.step(0, 2);
        patch(x, 0, ADD, 10);
        CHECK.is("8: not at a return from the second frame", x.step(0, 1), 0);
        CHECK.is("8: nor before the step of the return", x.look(0, LEVEL), 0);
        CHECK.is("8: at the return from the only frame, patched itself", x.step(0, 2), 1);
        CHECK.is("8: the level is the target", x.look(0, LEVEL), 1);
        CHECK.is("8: called again with that level", x.frame(0, 0, CALLED_AT), 1);
        CHECK.is("8: and its body", x.look(0, SUM), 11);
        CHECK.is("8: the transition is over", x.target(), -1);
    }

    private static void goesOverAtSafe() {
        PatchDesk x = desk(2);
        write(x, 0, false, ADD, 1, SAFE, 0, CALL, 1, ADD, 1);
        write(x, 1, false, ADD, 5);
        x.task(0);
        patch(x, 1, ADD, 50);
        CHECK.is("8: not before the SAFE", x.step(0, 1), 0);
        CHECK.is("8: in the step that does the SAFE", x.step(0, 1), 1);
        CHECK.is("8: which is done then", x.frame(0, 0, PLACE), 2);
        CHECK.is("8: the frame keeps its level", x.frame(0, 0, CALLED_AT), 0);
        x.step(0, 1);
        CHECK.is("8: a call has the new level", x.frame(0, 1, CALLED_AT), 1);
        x.step(0, 1);
        CHECK.is("8: and the new body", x.look(0, SUM), 51);
        CHECK.is("8: once over, it does not go over again", x.step(0, 20), 0);
    }

    private static void goesOverOnlyWhenNothingPatchedIsOpen() {
        PatchDesk x = desk(3);
        write(x, 0, false, CALL, 1, SAFE, 0);
        write(x, 1, false, CALL, 2, SAFE, 0);
        write(x, 2, false, SAFE, 0);
        x.task(0);
        x.task(0);
        x.step(1, 2);
        patch(x, 1, SAFE, 0);
        CHECK.is("8: a frame below is patched", x.step(1, 2), 0);
        CHECK.is("8: the frame itself is patched", x.step(1, 1), 0);
        CHECK.is("8: none is: at the SAFE behind", x.step(1, 2), 2);
        CHECK.is("8: all the way", x.step(0, 7), 7);
        CHECK.is("8: all have gone over", x.target(), -1);
    }

    private static void goesOverOnlyWhenFirstFrameIsNotPatched() {
        PatchDesk x = desk(2);
        write(x, 0, false, SAFE, 0, CALL, 1, SAFE, 0);
        write(x, 1, false, SAFE, 0);
        x.task(0);
        patch(x, 0, SAFE, 0);
        CHECK.is("8: the only frame is patched", x.step(0, 1), 0);
        CHECK.is("8: the frame below is patched", x.step(0, 3), 0);
        CHECK.is("8: the only frame again, up to its return", x.step(0, 2), 2);
        x.turn();
        CHECK.is("8: backwards it is the same", x.step(0, 2), 2);
        CHECK.is("8: and the patch is gone", x.patches(), 0);
    }

    private static void goesOverByLatestPatchAlone() {
        PatchDesk x = desk(2);
        write(x, 0, false, SAFE, 0, ADD, 1);
        patch(x, 0, SAFE, 0, ADD, 10);
        x.task(0);
        patch(x, 1, ADD, 1);
        CHECK.is("8: an earlier patch's function may stand open", x.step(0, 1), 1);
        CHECK.is("8: over", x.target(), -1);
    }

    private static void goesOverBackwards() {
        PatchDesk x = desk(2);
        write(x, 0, false, CALL, 1, SAFE, 0, ADD, 1);
        write(x, 1, false, SAFE, 0, ADD, 5);
        patch(x, 1, SAFE, 0, ADD, 50);
        x.task(0);
        x.step(0, 1);
        x.turn();
        CHECK.is("8: backwards, the patched one open", x.step(0, 3), 0);
        CHECK.is("8: it did the patch's body", x.look(0, SUM), 50);
        CHECK.is("8: the patch is there", x.patches(), 1);
        CHECK.is("8: backwards, closed", x.step(0, 5), 1);
        CHECK.is("8: one level less", x.look(0, LEVEL), 0);
        CHECK.is("8: the patch is gone", x.patches(), 0);
        CHECK.is("8: up to the called one's ADD", x.look(0, SUM), 51);
        x.step(0, 1);
        CHECK.is("8: the first body counts again", x.look(0, SUM), 56);
    }

    private static void untouchedTaskHoldsTransition() {
        PatchDesk x = desk(1);
        write(x, 0, false, ADD, 1);
        x.task(0);
        x.task(0);
        patch(x, 0, ADD, 2);
        x.step(0, 2);
        CHECK.is("8: a task without a step has not gone over", x.target(), 1);
        CHECK.is("8: it is at its level", x.look(1, LEVEL), 0);
        CHECK.is("8: it goes over at its return", x.step(1, 3), 2);
        CHECK.is("8: over", x.target(), -1);
    }

    private static void frameKeepsBody() {
        PatchDesk x = desk(2);
        write(x, 0, false, SAFE, 0, ADD, 1, ADD, 1);
        write(x, 1, false, CALL, 0);
        x.task(1);
        x.task(0);
        x.step(0, 1);
        x.step(1, 1);
        patch(x, 0, ADD, 30);
        x.step(0, 3);
        x.step(1, 2);
        CHECK.is("8: the open frame did its own body", x.look(0, SUM), 2);
        CHECK.is("8: the other task, too", x.look(1, SUM), 2);
        x.step(0, 3);
        x.step(1, 2);
        CHECK.is("8: then the patch's", x.look(1, SUM), 32);
        CHECK.is("8: of each task by its level", x.look(0, LEVEL), 1);
        CHECK.is("8: over", x.target(), -1);
    }

    private static void frameKeepsBodyOfGoneLevel() {
        PatchDesk x = desk(3);
        write(x, 0, false, CALL, 1, SAFE, 0);
        write(x, 1, false, SAFE, 0, ADD, 1, ADD, 1);
        patch(x, 2);
        x.task(0);
        x.step(0, 1);
        x.turn();
        CHECK.is("8: back, with a frame of the level that goes", x.step(0, 1), 1);
        CHECK.is("8: the patch is gone", x.patches(), 0);
        patch(x, 1, ADD, 40, ADD, 40, ADD, 40);
        CHECK.is("8: the frame's level is what it was", x.frame(0, 1, CALLED_AT), 1);
        x.step(0, 2);
        CHECK.is("8: the body that was there then stays the frame's", x.look(0, SUM), 2);
        x.step(0, 1);
        CHECK.is("8: to its own end", x.look(0, FRAMES), 1);
    }

    private static void look() {
        PatchDesk x = desk(1);
        write(x, 0, false, OUT, 0, ADD, 3, OUT, 0, ADD, 2);
        CHECK.fails("9: no task yet", Check.ARGUMENT, () -> x.look(0, 0));
        x.task(0);
        for (int what = 0; what <= 5; what++) {
            CHECK.is("9: of a new task what " + what, x.look(0, what), what == FRAMES ? 1 : 0);
        }
        x.step(0, 4);
        CHECK.is("9: level", x.look(0, LEVEL), 0);
        CHECK.is("9: sum", x.look(0, SUM), 5);
        CHECK.is("9: frames", x.look(0, FRAMES), 1);
        CHECK.is("9: steps", x.look(0, STEPS), 4);
        CHECK.is("9: how many out", x.look(0, OUTS), 2);
        CHECK.is("9: the latest out", x.look(0, LATEST), 3);
        x.step(0, 2);
        CHECK.is("9: another one out", x.look(0, OUTS), 3);
        CHECK.is("9: it alone is the latest", x.look(0, LATEST), 5);
        CHECK.fails("9: what -1", Check.ARGUMENT, () -> x.look(0, -1));
        CHECK.fails("9: what 6", Check.ARGUMENT, () -> x.look(0, 6));
        CHECK.fails("9: task 1", Check.ARGUMENT, () -> x.look(1, 0));
        CHECK.fails("9: task -1", Check.ARGUMENT, () -> x.look(-1, 0));
    }

    private static void frame() {
        PatchDesk x = desk(3);
        write(x, 1, false, CALL, 2);
        patch(x, 0, ADD, 1);
        x.task(1);
        x.step(0, 1);
        CHECK.is("10: function of the first", x.frame(0, 0, OF), 1);
        CHECK.is("10: level of the first", x.frame(0, 0, CALLED_AT), 1);
        CHECK.is("10: place of the first", x.frame(0, 0, PLACE), 1);
        CHECK.is("10: function of the second", x.frame(0, 1, OF), 2);
        CHECK.is("10: level of the second", x.frame(0, 1, CALLED_AT), 1);
        CHECK.is("10: place of the second", x.frame(0, 1, PLACE), 0);
        CHECK.fails("10: frame 2", Check.ELEMENT, () -> x.frame(0, 2, 0));
        CHECK.fails("10: frame 6", Check.ELEMENT, () -> x.frame(0, 6, 0));
        CHECK.fails("10: frame -1", Check.ELEMENT, () -> x.frame(0, -1, 0));
        CHECK.fails("10: what 3", Check.ARGUMENT, () -> x.frame(0, 0, 3));
        CHECK.fails("10: what -1", Check.ARGUMENT, () -> x.frame(0, 0, -1));
        CHECK.fails("10: what before frame", Check.ARGUMENT, () -> x.frame(0, 2, 3));
        CHECK.fails("10: task 1", Check.ARGUMENT, () -> x.frame(1, 0, 0));
        CHECK.fails("10: task -1", Check.ARGUMENT, () -> x.frame(-1, 9, 0));
        x.step(0, 1);
        CHECK.fails("10: a frame that returned", Check.ELEMENT, () -> x.frame(0, 1, 0));
    }

    private static void patches() {
        PatchDesk x = desk(1);
        x.task(0);
        x.name(0, 0);
        CHECK.is("11: a draft does not count", x.patches(), 0);
        x.apply();
        CHECK.is("11: in transition forwards", x.patches(), 1);
        x.step(0, 1);
        CHECK.is("11: over", x.patches(), 1);
        x.turn();
        CHECK.is("11: in transition backwards", x.patches(), 1);
        x.step(0, 1);
        CHECK.is("11: gone", x.patches(), 0);
    }

    private static void target() {
        PatchDesk x = desk(1);
        patch(x, 0);
        CHECK.is("12: none without tasks", x.target(), -1);
        x.task(0);
        patch(x, 0);
        CHECK.is("12: forwards", x.target(), 2);
        x.step(0, 1);
        CHECK.is("12: over", x.target(), -1);
        x.turn();
        CHECK.is("12: backwards", x.target(), 1);
        x.step(0, 1);
        x.turn();
        CHECK.is("12: backwards to 0", x.target(), 0);
        x.step(0, 1);
        CHECK.is("12: over again", x.target(), -1);
    }

    private static void body() {
        PatchDesk x = desk(2);
        write(x, 0, false, ADD, 1);
        patch(x, 0, ADD, 1, ADD, 2);
        patch(x, 1, ADD, 1, ADD, 2, ADD, 3);
        x.task(0);
        patch(x, 0);
        int[] ofZero = {1, 2, 2, 0};
        int[] ofOne = {0, 0, 3, 3};
        for (int level = 0; level <= 3; level++) {
            CHECK.is("13: function 0 at " + level, x.body(0, level), ofZero[level]);
            CHECK.is("13: function 1 at " + level, x.body(1, level), ofOne[level]);
        }
        CHECK.fails("13: level 4", Check.ELEMENT, () -> x.body(0, 4));
        CHECK.fails("13: level -1", Check.ELEMENT, () -> x.body(0, -1));
        CHECK.fails("13: function 2", Check.ARGUMENT, () -> x.body(2, 0));
        CHECK.fails("13: function -1 at no level", Check.ARGUMENT, () -> x.body(-1, 9));
        x.step(0, 3);
        x.turn();
        CHECK.is("13: the level is there while it goes backwards", x.body(0, 3), 0);
        x.step(0, 1);
        CHECK.fails("13: then it is gone", Check.ELEMENT, () -> x.body(0, 3));
        CHECK.is("13: and the one below stays", x.body(0, 2), 2);
    }
}
