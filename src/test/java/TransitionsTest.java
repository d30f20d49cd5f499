/** When a transition begins, who goes over in it and in which step, how it is turned, and when it is over. */
public final class TransitionsTest extends Desks {
    public static void main(String[] args) {
        withoutTasksForwards();
        withoutTasksBackwards();
        theTargetIsThePatchOrOneLess();
        overAtTheReturnFromTheOnlyFrame();
        notAtTheReturnFromTheSecondFrame();
        atTheReturnEvenWhenPatched();
        atTheReturnOfAnEmptyBody();
        atNoOperationButSafe();
        atSafeByTheFrames();
        atSafeOfSixFrames();
        atSafeByTheFunctionNotTheBody();
        atSafeByThePatchOfTheTransition();
        atSafeByEveryFunctionThatThePatchNames();
        safeWithoutATransition();
        inTheFirstAndTheHundredthStep();
        onceOnly();
        itGoesOverAndThenSteps();
        aNewTaskBeginsAtTheTarget();
        aTaskThatHasNotSteppedIsWaitedFor();
        overWithTheLastOfFourTasks();
        noOtherPatchForwards();
        noOtherPatchBackwards();
        turnedRoundBeforeAnyWentOver();
        turnedRoundHalfWay();
        turnedRoundBackwards();
        turnedRoundAgainAndAgain();
        turnedRoundWithANewTask();
        turnedRoundOverTheLevelBelow();
        turnedBackDownToNothing();
        theGonePatchLeavesItsNumber();
        anOpenFrameOutlivesItsPatch();
        theDraftStaysWhenAPatchIsTurned();
        CHECK.end("TransitionsTest");
    }

    /** Function 0 as the task's own, with a SAFE; function 1 stands by to be patched. */
    private static PatchDesk safeDesk(int tasks) {
        PatchDesk desk = desk(2);
        write(desk, 0, false, ADD, 1, SAFE, 0, ADD, 1);
        for (int i = 0; i < tasks; i++) {
            desk.task(0);
        }
        return desk;
    }

    private static void withoutTasksForwards() {
        PatchDesk x = desk(1);
        CHECK.is("no tasks, forwards: the patch", patch(x, 0, ADD, 1), 1);
        CHECK.is("no tasks, forwards: over", x.target(), -1);
        CHECK.is("no tasks, forwards: it stays", x.patches(), 1);
        CHECK.is("no tasks, forwards: another one can come", patch(x, 0, ADD, 1), 2);
        PatchDesk y = safeDesk(1);
        patch(y, 1);
        CHECK.is("one task, forwards: not over", y.target(), 1);
    }

    private static void withoutTasksBackwards() {
        PatchDesk x = desk(1);
        patch(x, 0);
        CHECK.is("no tasks, backwards: the target", x.turn(), 0);
        CHECK.is("no tasks, backwards: over", x.target(), -1);
        CHECK.is("no tasks, backwards: the patch is gone", x.patches(), 0);
        CHECK.fails("no tasks, backwards: nothing to turn", Check.STATE, x::turn);
        PatchDesk y = desk(1);
        patch(y, 0);
        y.task(0);
        CHECK.is("one task, backwards: the target", y.turn(), 0);
        CHECK.is("one task, backwards: not over", y.target(), 0);
        CHECK.is("one task, backwards: the patch is there", y.patches(), 1);
    }

    private static void theTargetIsThePatchOrOneLess() {
        PatchDesk x = safeDesk(1);
        for (int number = 1; number <= 5; number++) {
            CHECK.is("target: none", x.target(), -1);
            patch(x, 1);
            CHECK.is("target: that of the patch", x.target(), number);
            x.step(0, 4);
        }
        for (int number = 5; number >= 1; number--) {
            CHECK.is("target: none again", x.target(), -1);
            CHECK.is("target: the answer of turn", x.turn(), number - 1);
            CHECK.is("target: one less", x.target(), number - 1);
            x.step(0, 4);
        }
        CHECK.is("target: none at the end", x.target(), -1);
    }

    private static void overAtTheReturnFromTheOnlyFrame() {
        PatchDesk x = desk(2);
        write(x, 0, false, ADD, 1, ADD, 1);
        x.task(0);
        patch(x, 1);
        CHECK.is("only frame: not before its end", x.step(0, 2), 0);
        CHECK.is("only frame: at its end it is at its old level", x.look(0, LEVEL), 0);
        CHECK.is("only frame: about to return", x.step(0, 1), 1);
        CHECK.is("only frame: it is over", x.look(0, LEVEL), 1);
        CHECK.is("only frame: called again with the new level", x.frame(0, 0, CALLED_AT), 1);
        CHECK.is("only frame: the transition is over", x.target(), -1);
    }

    private static void notAtTheReturnFromTheSecondFrame() {
        PatchDesk x = desk(3);
        write(x, 0, false, CALL, 1, ADD, 1);
        x.task(0);
        x.step(0, 1);
        patch(x, 2);
        CHECK.is("second frame: its return is not safe", x.step(0, 1), 0);
        CHECK.is("second frame: the level stays", x.look(0, LEVEL), 0);
        CHECK.is("second frame: nor is the ADD behind it", x.step(0, 1), 0);
        CHECK.is("second frame: the only frame's return is", x.step(0, 1), 1);
    }

    private static void atTheReturnEvenWhenPatched() {
        PatchDesk x = desk(1);
        write(x, 0, false, SAFE, 0, ADD, 1);
        x.task(0);
        patch(x, 0, ADD, 20);
        CHECK.is("patched only frame: not at its SAFE, but at its return", x.step(0, 3), 3);
        x.step(0, 1);
        CHECK.is("patched only frame: it goes on with the patch's body", x.look(0, SUM), 21);
        x.turn();
        CHECK.is("patched only frame: backwards, at its return", x.step(0, 1), 1);
        x.step(0, 2);
        CHECK.is("patched only frame: and on with the first body", x.look(0, SUM), 22);
    }

    private static void atTheReturnOfAnEmptyBody() {
        PatchDesk x = desk(1);
        x.task(0);
        patch(x, 0, ADD, 1);
        CHECK.is("empty body: its first step is the return", x.step(0, 1), 1);
        CHECK.is("empty body: over", x.target(), -1);
        x.step(0, 1);
        CHECK.is("empty body: the patch's body follows", x.look(0, SUM), 1);
    }

    private static void atNoOperationButSafe() {
        for (int kind = ADD; kind <= CALL_WHEN; kind++) {
            PatchDesk x = desk(2);
            write(x, 0, false, kind, 0, ADD, 1);
            x.task(0);
            patch(x, 1);
            CHECK.is("about to do kind " + kind, x.step(0, 1), kind == SAFE ? 1 : 0);
            CHECK.is("the level then", x.look(0, LEVEL), kind == SAFE ? 1 : 0);
            CHECK.is("the target then", x.target(), kind == SAFE ? -1 : 1);
        }
    }

    /** Frames of functions 0, 1, 2, the last about to do SAFE; function 3 is never open. */
    private static PatchDesk threeOpen() {
        PatchDesk desk = desk(4);
        write(desk, 0, false, CALL, 1);
        write(desk, 1, false, CALL, 2);
        write(desk, 2, false, SAFE, 0);
        desk.task(0);
        desk.step(0, 2);
        return desk;
    }

    private static void atSafeByTheFrames() {
        String[] which = {"the first", "the middle", "the last", "none"};
        for (int patched = 0; patched < 4; patched++) {
            PatchDesk x = threeOpen();
            patch(x, patched);
            CHECK.is("SAFE, patched is " + which[patched], x.step(0, 1), patched == 3 ? 1 : 0);
            CHECK.is("SAFE is done, over or not", x.frame(0, 2, PLACE), 1);
        }
        PatchDesk y = desk(2);
        write(y, 0, false, CALL, 1, SAFE, 0);
        y.task(0);
        y.step(0, 1);
        patch(y, 1, ADD, 1);
        CHECK.is("SAFE, the patched one has just returned", y.step(0, 2), 2);
    }

    private static void atSafeOfSixFrames() {
        for (int patched = 0; patched <= 6; patched++) {
            PatchDesk x = desk(7);
            for (int i = 0; i < 5; i++) {
                write(x, i, false, CALL, i + 1);
            }
            write(x, 5, false, SAFE, 0);
            x.task(0);
            x.step(0, 5);
            patch(x, patched);
            CHECK.is("six frames, patched is " + patched, x.step(0, 1), patched == 6 ? 1 : 0);
        }
    }

    private static void atSafeByTheFunctionNotTheBody() {
        PatchDesk x = desk(2);
        write(x, 0, false, SAFE, 0, ADD, 1);
        x.task(0);
        patch(x, 0, SAFE, 0, ADD, 1);
        CHECK.is("the same body again is a patch too", x.step(0, 1), 0);
        CHECK.is("over at the return", x.step(0, 2), 2);
        CHECK.is("back", x.turn(), 0);
        CHECK.is("a frame of the patch's body", x.step(0, 1), 0);
        CHECK.is("at its return", x.step(0, 2), 2);
    }

    private static void atSafeByThePatchOfTheTransition() {
        PatchDesk x = desk(3);
        write(x, 0, false, SAFE, 0);
        patch(x, 0, SAFE, 0, ADD, 1);
        patch(x, 1);
        x.task(0);
        CHECK.is("function 0 is of an earlier patch: back from 2", x.turn(), 1);
        CHECK.is("so SAFE will do", x.step(0, 1), 1);
        CHECK.is("back from 1", x.turn(), 0);
        CHECK.is("now 0 is patched: at the return", x.step(0, 2), 2);
        CHECK.is("none is left", x.patches(), 0);
    }

    private static void atSafeByEveryFunctionThatThePatchNames() {
        for (int open = 0; open < 3; open++) {
            PatchDesk x = desk(3);
            write(x, open, false, SAFE, 0);
            x.task(open);
            x.name(0, 0);
            x.name(2, 2);
            x.apply();
            CHECK.is("0 and 2 are patched, open is " + open, x.step(0, 1), open == 1 ? 1 : 0);
        }
    }

    private static void safeWithoutATransition() {
        PatchDesk x = safeDesk(1);
        CHECK.is("no transition: nobody goes over", x.step(0, 100), 0);
        CHECK.is("no transition: the level stays", x.look(0, LEVEL), 0);
        patch(x, 1);
        x.step(0, 10);
        CHECK.is("no transition any more", x.step(0, 100), 0);
        CHECK.is("no transition any more: the level stays", x.look(0, LEVEL), 1);
    }

    private static void inTheFirstAndTheHundredthStep() {
        PatchDesk first = lateSafe(101);
        CHECK.is("in which step: the first", first.step(0, 1), 1);
        PatchDesk second = lateSafe(100);
        CHECK.is("in which step: the second of two", second.step(0, 2), 2);
        PatchDesk last = lateSafe(2);
        CHECK.is("in which step: the hundredth", last.step(0, 100), 100);
        PatchDesk behind = lateSafe(1);
        CHECK.is("in which step: none of a hundred", behind.step(0, 100), 0);
        CHECK.is("in which step: the one behind them", behind.step(0, 1), 1);
    }

    /** A task whose 102nd step is its first safe one, and a patch that comes when it has done so many. */
    private static PatchDesk lateSafe(int done) {
        PatchDesk desk = desk(3);
        write(desk, 0, false, ADD, 1, CALL, 1, CALL, 1, SAFE, 0);
        // A call of 1 is 50 steps: the CALL, four times 11 ADDs and the REPEAT, the return.
        for (int i = 0; i < 11; i++) {
            desk.operation(1, false, ADD, 1);
        }
        desk.operation(1, false, REPEAT, 0);
        desk.task(0);
        for (int i = 0; i < done; i++) {
            desk.step(0, 1);
        }
        patch(desk, 2);
        return desk;
    }

    private static void onceOnly() {
        PatchDesk x = safeDesk(2);
        patch(x, 1);
        CHECK.is("once: at the first SAFE of many", x.step(0, 100), 2);
        CHECK.is("once: not again while the other one waits", x.step(0, 100), 0);
        CHECK.is("once: the transition goes on", x.target(), 1);
        CHECK.is("once: the other one", x.step(1, 100), 2);
        CHECK.is("once: over", x.target(), -1);
    }

    private static void itGoesOverAndThenSteps() {
        PatchDesk x = safeDesk(1);
        x.step(0, 1);
        patch(x, 1);
        CHECK.is("then it steps: in this one", x.step(0, 1), 1);
        CHECK.is("then it steps: behind the SAFE", x.frame(0, 0, PLACE), 2);
        CHECK.is("then it steps: going over is no step", x.look(0, STEPS), 2);
        x.step(0, 1);
        x.turn();
        CHECK.is("then it returns: in this one", x.step(0, 1), 1);
        CHECK.is("then it returns: with the new level", x.frame(0, 0, CALLED_AT), 0);
        CHECK.is("then it returns: going over is no step", x.look(0, STEPS), 4);
    }

    private static void aNewTaskBeginsAtTheTarget() {
        PatchDesk x = safeDesk(1);
        patch(x, 1, ADD, 5);
        CHECK.is("new task, forwards", x.task(1), 1);
        CHECK.is("new task, forwards: at the target", x.look(1, LEVEL), 1);
        CHECK.is("new task, forwards: its frame too", x.frame(1, 0, CALLED_AT), 1);
        CHECK.is("new task, forwards: it has gone over", x.step(1, 1), 0);
        CHECK.is("new task, forwards: with the patch's body", x.look(1, SUM), 5);
        CHECK.is("new task, forwards: the other one has not", x.target(), 1);
        CHECK.is("round", x.turn(), 0);
        CHECK.is("new task, backwards", x.task(1), 2);
        CHECK.is("new task, backwards: at the target", x.look(2, LEVEL), 0);
        CHECK.is("new task, backwards: its frame too", x.frame(2, 0, CALLED_AT), 0);
        CHECK.is("new task, backwards: task 1 is to go back", x.target(), 0);
        x.step(1, 1);
        CHECK.is("new task, backwards: over", x.target(), -1);
        CHECK.is("new task, no patch", x.task(0), 3);
        CHECK.is("new task, no patch: level 0", x.look(3, LEVEL), 0);
        PatchDesk y = desk(1);
        patch(y, 0);
        patch(y, 0);
        y.task(0);
        CHECK.is("new task behind two patches: all count for it", y.look(0, LEVEL), 2);
    }

    private static void aTaskThatHasNotSteppedIsWaitedFor() {
        PatchDesk x = safeDesk(1);
        patch(x, 1);
        CHECK.is("made before the patch: not over by itself", x.look(0, LEVEL), 0);
        CHECK.is("made before the patch: the transition goes on", x.target(), 1);
        CHECK.is("made before the patch: over in its own steps", x.step(0, 2), 2);
    }

    private static void overWithTheLastOfFourTasks() {
        PatchDesk x = safeDesk(4);
        patch(x, 1);
        int[] order = {2, 0, 3, 1};
        for (int i = 0; i < 4; i++) {
            CHECK.is("all tasks: not over before number " + i, x.target(), 1);
            CHECK.is("all tasks: goes over", x.step(order[i], 2), 2);
        }
        CHECK.is("all tasks: over", x.target(), -1);
        x.turn();
        for (int i = 0; i < 4; i++) {
            CHECK.is("all tasks, back: the patch is there", x.patches(), 1);
            CHECK.is("all tasks, back: goes over at its return", x.step(order[i], 2), 2);
        }
        CHECK.is("all tasks, back: the patch is gone", x.patches(), 0);
        CHECK.is("all tasks, back: over", x.target(), -1);
    }

    private static void noOtherPatchForwards() {
        PatchDesk x = safeDesk(1);
        patch(x, 1, ADD, 1);
        draft(x, 1, ADD, 1, ADD, 1);
        CHECK.fails("forwards: no other patch", Check.STATE, x::apply);
        CHECK.is("forwards: the transition is as before", x.target(), 1);
        CHECK.is("forwards: the patch too", x.body(1, 1), 1);
        CHECK.fails("forwards: the draft is empty", Check.ARGUMENT, () -> x.operation(1, true, ADD, 1));
        x.step(0, 2);
        CHECK.is("forwards, over: another patch", patch(x, 1), 2);
    }

    private static void noOtherPatchBackwards() {
        PatchDesk x = safeDesk(2);
        patch(x, 1, ADD, 1);
        x.step(0, 2);
        x.turn();
        draft(x, 1, ADD, 1, ADD, 1);
        CHECK.fails("backwards: no other patch", Check.STATE, x::apply);
        CHECK.is("backwards: the transition is as before", x.target(), 0);
        CHECK.is("backwards: the patch too", x.body(1, 1), 1);
        CHECK.fails("backwards: the draft is empty", Check.ARGUMENT, () -> x.operation(1, true, ADD, 1));
        CHECK.is("backwards: over at the return", x.step(0, 2), 2);
        CHECK.is("backwards, over: another patch with that number", patch(x, 1), 1);
    }

    private static void turnedRoundBeforeAnyWentOver() {
        PatchDesk x = safeDesk(2);
        patch(x, 1);
        CHECK.is("round, none is over: the target", x.turn(), 0);
        CHECK.is("round, none is over: over", x.target(), -1);
        CHECK.is("round, none is over: the patch is gone", x.patches(), 0);
        CHECK.fails("round, none is over: its level too", Check.ELEMENT, () -> x.body(1, 1));
        CHECK.fails("round, none is over: nothing left to turn", Check.STATE, x::turn);
        CHECK.is("round, none is over: nobody goes over later", x.step(0, 100), 0);
    }

    private static void turnedRoundHalfWay() {
        PatchDesk x = safeDesk(2);
        patch(x, 1);
        x.step(0, 2);
        CHECK.is("round half way: the target", x.turn(), 0);
        CHECK.is("round half way: it goes on", x.target(), 0);
        CHECK.is("round half way: who stayed has gone over", x.step(1, 100), 0);
        CHECK.is("round half way: it still goes on", x.target(), 0);
        CHECK.is("round half way: who went has to go back", x.look(0, LEVEL), 1);
        CHECK.is("round half way: at its return", x.step(0, 2), 2);
        CHECK.is("round half way: back", x.look(0, LEVEL), 0);
        CHECK.is("round half way: the patch is gone", x.patches(), 0);
    }

    private static void turnedRoundBackwards() {
        PatchDesk x = safeDesk(2);
        patch(x, 1);
        x.step(0, 2);
        x.step(1, 2);
        CHECK.is("back: the target", x.turn(), 0);
        CHECK.is("round, none is back: the target", x.turn(), 1);
        CHECK.is("round, none is back: over", x.target(), -1);
        CHECK.is("round, none is back: the patch stays", x.patches(), 1);
        CHECK.is("back again: the target", x.turn(), 0);
        CHECK.is("back again: one goes over", x.step(0, 2), 2);
        CHECK.is("round, one is back: the target", x.turn(), 1);
        CHECK.is("round, one is back: it goes on", x.target(), 1);
        CHECK.is("round, one is back: the other one is there", x.step(1, 100), 0);
        CHECK.is("round, one is back: it goes over forwards", x.step(0, 2), 2);
        CHECK.is("round, one is back: over", x.target(), -1);
        CHECK.is("round, one is back: the patch stays", x.patches(), 1);
    }

    private static void turnedRoundAgainAndAgain() {
        PatchDesk x = safeDesk(2);
        patch(x, 1);
        x.step(0, 2);
        for (int i = 0; i < 20; i++) {
            CHECK.is("again and again: the target", x.turn(), i % 2 == 0 ? 0 : 1);
            CHECK.is("again and again: it goes on", x.target(), i % 2 == 0 ? 0 : 1);
            CHECK.is("again and again: the patch is there", x.patches(), 1);
        }
        CHECK.is("again and again: the levels stay", x.look(0, LEVEL), 1);
        CHECK.is("again and again: of both", x.look(1, LEVEL), 0);
    }

    private static void turnedRoundWithANewTask() {
        PatchDesk x = safeDesk(1);
        patch(x, 1);
        x.task(0);
        CHECK.is("round with a new task: the target", x.turn(), 0);
        CHECK.is("round with a new task: it has to go back", x.target(), 0);
        CHECK.is("round with a new task: at its SAFE", x.step(1, 2), 2);
        CHECK.is("round with a new task: gone", x.patches(), 0);
    }

    private static void turnedRoundOverTheLevelBelow() {
        PatchDesk x = safeDesk(2);
        patch(x, 1, ADD, 1);
        x.step(0, 2);
        x.step(1, 2);
        patch(x, 1, ADD, 1, ADD, 1);
        x.step(0, 4);
        CHECK.is("round above a patch: the target", x.turn(), 1);
        CHECK.is("round above a patch: it goes over", x.step(0, 4), 2);
        CHECK.is("round above a patch: one is left", x.patches(), 1);
        CHECK.is("round above a patch: with its body", x.body(1, 1), 1);
        CHECK.is("round above a patch: and both at its level", x.look(0, LEVEL) + x.look(1, LEVEL), 2);
    }

    private static void turnedBackDownToNothing() {
        PatchDesk x = desk(1);
        CHECK.fails("neither: at first", Check.STATE, x::turn);
        for (int i = 1; i <= 5; i++) {
            patch(x, 0);
        }
        for (int left = 4; left >= 0; left--) {
            CHECK.is("the latest back: the target", x.turn(), left);
            CHECK.is("the latest back: gone", x.patches(), left);
        }
        CHECK.fails("neither: any more", Check.STATE, x::turn);
        CHECK.is("neither: no patch", x.patches(), 0);
        CHECK.is("neither: no transition", x.target(), -1);
    }

    private static void theGonePatchLeavesItsNumber() {
        PatchDesk x = safeDesk(1);
        patch(x, 1, ADD, 1);
        x.step(0, 4);
        x.turn();
        CHECK.is("while it goes: its level is there", x.body(1, 1), 1);
        CHECK.fails("while it goes: but none above", Check.ELEMENT, () -> x.body(1, 2));
        x.step(0, 4);
        CHECK.fails("gone: so is its level", Check.ELEMENT, () -> x.body(1, 1));
        CHECK.is("gone: level 0 stays", x.body(1, 0), 0);
        CHECK.is("gone: the number is free", patch(x, 1, ADD, 1, ADD, 1, ADD, 1), 1);
        CHECK.is("gone: for another body", x.body(1, 1), 3);
    }

    private static void anOpenFrameOutlivesItsPatch() {
        PatchDesk x = desk(3);
        write(x, 0, false, CALL, 1, SAFE, 0);
        write(x, 1, false, SAFE, 0, ADD, 1);
        patch(x, 1, SAFE, 0, ADD, 10, ADD, 10);
        patch(x, 2);
        x.task(0);
        x.step(0, 1);
        x.turn();
        CHECK.is("an open frame of the level that goes", x.step(0, 1), 1);
        CHECK.is("that level is gone", x.patches(), 1);
        CHECK.is("the frame keeps it", x.frame(0, 1, CALLED_AT), 2);
        x.step(0, 2);
        CHECK.is("and does its body", x.look(0, SUM), 20);
    }

    private static void theDraftStaysWhenAPatchIsTurned() {
        PatchDesk x = safeDesk(1);
        patch(x, 1);
        draft(x, 1, ADD, 1);
        x.turn();
        CHECK.is("the draft stays when its time comes", x.operation(1, true, ADD, 1), 2);
        CHECK.is("and is applied then", x.apply(), 1);
        CHECK.is("with its body", x.body(1, 1), 2);
        x.name(0, 5);
        x.step(0, 2);
        x.task(0);
        CHECK.is("over: the draft is not", x.name(1, 1), 2);
        CHECK.fails("its signatures neither", Check.UNSUPPORTED, x::apply);
        CHECK.is("the patch is there", x.patches(), 1);
    }
}
