/** The limits and special cases that the Terms name for functions, bodies, operations, patches, tasks and frames. */
public final class LimitsTest extends Desks {
    public static void main(String[] args) {
        atMostEightFunctions();
        aSignatureIsUpToNine();
        aSignatureInTheDraftIsUpToNine();
        atMostTwelveOperations();
        atMostTwelveOperationsInTheDraft();
        addGoesUpToNinetyNine();
        addGoesUpToNinetyNineInTheDraft();
        aCallIsOfAFunction();
        anOperationIsUpToFive();
        repeatIsOfAPlaceUpToItsOwn();
        repeatOfTheTwelfthPlace();
        fewerThanThreeRepeats();
        repeatsAreCountedTogether();
        repeatsAreCountedOverCalls();
        repeatsAreCountedByFrame();
        repeatsAreCountedSinceTheCall();
        outOfNothingAndOfZero();
        callWhenTheSumIsEven();
        theEndIsAReturn();
        anEmptyBodyIsAReturn();
        aPatchNamesAFunctionOnce();
        aPatchNamesAllFunctions();
        atMostFivePatches();
        theLatestPatchUpToTheLevel();
        tasksUpToThree();
        atMostSixFrames();
        callWhenWithSixFrames();
        theFrameKeepsItsBody();
        theOnlyFrameReturns();
        stepsUpToAHundred();
        whatIsAskedOfATask();
        whatIsAskedOfAFrame();
        functionsAndFirstBodiesAreClosedAndOpenedAgain();
        everyCallOfALongUse();
        CHECK.end("LimitsTest");
    }

    private static void atMostEightFunctions() {
        PatchDesk x = desk(7);
        CHECK.fails("at most 8: no function 7 of 7", Check.ARGUMENT, () -> x.body(7, 0));
        CHECK.fails("at most 8: no CALL 7 of 7", Check.ARGUMENT, () -> x.operation(0, false, CALL, 7));
        CHECK.is("at most 8: the eighth", x.function(7), 7);
        CHECK.fails("at most 8: the ninth", Check.STATE, () -> x.function(8));
        CHECK.fails("at most 8: function 8", Check.ARGUMENT, () -> x.body(8, 0));
        CHECK.fails("at most 8: CALL 8", Check.ARGUMENT, () -> x.operation(0, false, CALL, 8));
        CHECK.is("at most 8: CALL 7", x.operation(0, false, CALL, 7), 1);
        CHECK.is("at most 8: the eighth's body", x.operation(7, false, ADD, 4), 1);
        CHECK.is("at most 8: the eighth is named", x.name(7, 7), 1);
        CHECK.fails("at most 8: the ninth is not named", Check.ARGUMENT, () -> x.name(8, 8));
        CHECK.fails("at most 8: no task of the ninth", Check.ARGUMENT, () -> x.task(8));
        CHECK.is("at most 8: a task of the eighth", x.task(7), 0);
        x.step(0, 1);
        CHECK.is("at most 8: which runs", x.look(0, SUM), 4);
    }

    private static void aSignatureIsUpToNine() {
        PatchDesk x = new PatchDesk();
        CHECK.fails("signature 0 .. 9: -1", Check.ARGUMENT, () -> x.function(-1));
        CHECK.fails("signature 0 .. 9: 10", Check.ARGUMENT, () -> x.function(10));
        CHECK.fails("signature 0 .. 9: no function came of them", Check.ARGUMENT, () -> x.body(0, 0));
        CHECK.is("signature 0 .. 9: 0", x.function(0), 0);
        CHECK.is("signature 0 .. 9: 9", x.function(9), 1);
        x.name(0, 0);
        x.name(1, 9);
        CHECK.is("signature 0 .. 9: both are what they were given", x.apply(), 1);
    }

    private static void aSignatureInTheDraftIsUpToNine() {
        PatchDesk x = desk(2);
        CHECK.fails("signature may be any: -1 is none", Check.ARGUMENT, () -> x.name(0, -1));
        CHECK.fails("signature may be any: 10 is none", Check.ARGUMENT, () -> x.name(0, 10));
        CHECK.fails("signature may be any: nothing was named", Check.ARGUMENT, () -> x.operation(0, true, ADD, 1));
        CHECK.is("signature may be any: 9, another one", x.name(0, 9), 1);
        CHECK.is("signature may be any: 0, another one", x.name(1, 0), 2);
        CHECK.fails("signature may be any: not at apply", Check.UNSUPPORTED, x::apply);
        x.name(0, 0);
        x.name(1, 2);
        CHECK.fails("same signature: one more", Check.UNSUPPORTED, x::apply);
        x.name(0, 0);
        x.name(1, 0);
        CHECK.fails("same signature: one less", Check.UNSUPPORTED, x::apply);
        x.name(0, 0);
        x.name(1, 1);
        CHECK.is("same signature: both the same", x.apply(), 1);
    }

    private static void atMostTwelveOperations() {
        PatchDesk x = desk(1);
        for (int i = 1; i <= 11; i++) {
            x.operation(0, false, ADD, 1);
        }
        CHECK.is("at most 12 operations: the 12th", x.operation(0, false, ADD, 50), 12);
        CHECK.fails("at most 12 operations: the 13th", Check.STATE, () -> x.operation(0, false, ADD, 1));
        CHECK.is("at most 12 operations: it has 12", x.body(0, 0), 12);
        x.task(0);
        x.step(0, 11);
        CHECK.is("at most 12 operations: before the 12th", x.look(0, SUM), 11);
        x.step(0, 1);
        CHECK.is("at most 12 operations: the 12th is done", x.look(0, SUM), 61);
        CHECK.is("at most 12 operations: behind it is the end", x.frame(0, 0, PLACE), 12);
        x.step(0, 1);
        CHECK.is("at most 12 operations: then it returns", x.frame(0, 0, PLACE), 0);
    }

    private static void atMostTwelveOperationsInTheDraft() {
        PatchDesk x = desk(2);
        x.name(0, 0);
        x.name(1, 1);
        for (int i = 1; i <= 11; i++) {
            x.operation(0, true, ADD, 1);
        }
        CHECK.is("at most 12 in the draft: the 12th", x.operation(0, true, ADD, 50), 12);
        CHECK.fails("at most 12 in the draft: the 13th", Check.STATE, () -> x.operation(0, true, ADD, 1));
        CHECK.is("at most 12 in the draft: another one has room", x.operation(1, true, ADD, 1), 1);
        CHECK.is("at most 12 in the draft: so has the first body", x.operation(0, false, ADD, 1), 1);
        x.apply();
        CHECK.is("at most 12 in the draft: it has 12", x.body(0, 1), 12);
        x.name(0, 0);
        CHECK.is("at most 12 in the draft: the next draft begins empty", x.operation(0, true, ADD, 1), 1);
    }

    private static void addGoesUpToNinetyNine() {
        PatchDesk x = desk(1);
        CHECK.fails("ADD -99 .. 99: -100", Check.ARGUMENT, () -> x.operation(0, false, ADD, -100));
        CHECK.fails("ADD -99 .. 99: 100", Check.ARGUMENT, () -> x.operation(0, false, ADD, 100));
        CHECK.is("ADD -99 .. 99: nothing was written", x.body(0, 0), 0);
        CHECK.is("ADD -99 .. 99: 99", x.operation(0, false, ADD, 99), 1);
        CHECK.is("ADD -99 .. 99: 0", x.operation(0, false, ADD, 0), 2);
        CHECK.is("ADD -99 .. 99: -99", x.operation(0, false, ADD, -99), 3);
        CHECK.is("ADD -99 .. 99: -99 again", x.operation(0, false, ADD, -99), 4);
        x.task(0);
        int[] sums = {99, 99, 0, -99};
        for (int i = 0; i < sums.length; i++) {
            x.step(0, 1);
            CHECK.is("ADD -99 .. 99: the sum behind operation " + i, x.look(0, SUM), sums[i]);
        }
    }

    private static void addGoesUpToNinetyNineInTheDraft() {
        PatchDesk x = desk(1);
        x.name(0, 0);
        CHECK.fails("ADD -99 .. 99 in the draft: -100", Check.ARGUMENT, () -> x.operation(0, true, ADD, -100));
        CHECK.fails("ADD -99 .. 99 in the draft: 100", Check.ARGUMENT, () -> x.operation(0, true, ADD, 100));
        CHECK.is("ADD -99 .. 99 in the draft: -99", x.operation(0, true, ADD, -99), 1);
        CHECK.is("ADD -99 .. 99 in the draft: 99", x.operation(0, true, ADD, 99), 2);
        x.apply();
        x.task(0);
        x.step(0, 1);
        CHECK.is("ADD -99 .. 99 in the draft: done", x.look(0, SUM), -99);
        x.step(0, 1);
        CHECK.is("ADD -99 .. 99 in the draft: both done", x.look(0, SUM), 0);
    }

    private static void aCallIsOfAFunction() {
        PatchDesk x = desk(3);
        x.name(0, 0);
        for (int kind : new int[] {CALL, CALL_WHEN}) {
            for (boolean ofDraft : new boolean[] {false, true}) {
                String what = "for CALLs a function, kind " + kind + (ofDraft ? " in the draft: " : ": ");
                int has = kind == CALL ? 0 : 2;
                CHECK.fails(what + "-1", Check.ARGUMENT, () -> x.operation(0, ofDraft, kind, -1));
                CHECK.fails(what + "3 of 3", Check.ARGUMENT, () -> x.operation(0, ofDraft, kind, 3));
                CHECK.is(what + "0, itself", x.operation(0, ofDraft, kind, 0), has + 1);
                CHECK.is(what + "2 of 3", x.operation(0, ofDraft, kind, 2), has + 2);
            }
        }
    }

    private static void anOperationIsUpToFive() {
        PatchDesk x = desk(1);
        x.name(0, 0);
        for (boolean ofDraft : new boolean[] {false, true}) {
            String what = "no such operation" + (ofDraft ? " in the draft: " : ": ");
            CHECK.fails(what + "-1", Check.ARGUMENT, () -> x.operation(0, ofDraft, -1, 0));
            CHECK.fails(what + "6", Check.ARGUMENT, () -> x.operation(0, ofDraft, 6, 0));
            for (int kind = 0; kind <= 5; kind++) {
                CHECK.is(what + "but " + kind, x.operation(0, ofDraft, kind, 0), kind + 1);
            }
        }
    }

    private static void repeatIsOfAPlaceUpToItsOwn() {
        PatchDesk x = desk(1);
        write(x, 0, false, SAFE, 0, SAFE, 0, SAFE, 0);
        x.name(0, 0);
        CHECK.fails("REPEAT: -1", Check.ARGUMENT, () -> x.operation(0, false, REPEAT, -1));
        CHECK.fails("REPEAT: behind its own place", Check.ARGUMENT, () -> x.operation(0, false, REPEAT, 4));
        CHECK.is("REPEAT: its own place", x.operation(0, false, REPEAT, 3), 4);
        CHECK.is("REPEAT: a place that the body has by then", x.operation(0, false, REPEAT, 3), 5);
        CHECK.is("REPEAT: the first place", x.operation(0, false, REPEAT, 0), 6);
        CHECK.fails("REPEAT in the draft: -1", Check.ARGUMENT, () -> x.operation(0, true, REPEAT, -1));
        CHECK.fails("REPEAT in the draft: the draft's body counts", Check.ARGUMENT, () -> x.operation(0, true, REPEAT, 1));
        CHECK.is("REPEAT in the draft: its own place", x.operation(0, true, REPEAT, 0), 1);
        CHECK.fails("REPEAT in the draft: behind its own", Check.ARGUMENT, () -> x.operation(0, true, REPEAT, 2));
        CHECK.is("REPEAT in the draft: its own place again", x.operation(0, true, REPEAT, 1), 2);
    }

    private static void repeatOfTheTwelfthPlace() {
        PatchDesk x = desk(1);
        for (int i = 0; i < 11; i++) {
            x.operation(0, false, SAFE, 0);
        }
        CHECK.fails("REPEAT as the 12th: 12", Check.ARGUMENT, () -> x.operation(0, false, REPEAT, 12));
        CHECK.is("REPEAT as the 12th: 11, its own", x.operation(0, false, REPEAT, 11), 12);
        CHECK.fails("REPEAT as the 13th: 13", Check.ARGUMENT, () -> x.operation(0, false, REPEAT, 13));
        CHECK.fails("REPEAT as the 13th: 11", Check.STATE, () -> x.operation(0, false, REPEAT, 11));
        x.task(0);
        x.step(0, 14);
        CHECK.is("REPEAT as the 12th: three times on itself", x.frame(0, 0, PLACE), 11);
        x.step(0, 1);
        CHECK.is("REPEAT as the 12th: then the end", x.frame(0, 0, PLACE), 12);
        x.step(0, 1);
        CHECK.is("REPEAT as the 12th: and the return", x.frame(0, 0, PLACE), 0);
    }

    private static void fewerThanThreeRepeats() {
        PatchDesk x = desk(1);
        write(x, 0, false, ADD, 1, REPEAT, 0, OUT, 0);
        x.task(0);
        for (int done = 1; done <= 3; done++) {
            x.step(0, 2);
            CHECK.is("fewer than three REPEATs: number " + done + " goes on at k", x.frame(0, 0, PLACE), 0);
        }
        x.step(0, 2);
        CHECK.is("fewer than three REPEATs: the fourth is passed over", x.frame(0, 0, PLACE), 2);
        CHECK.is("fewer than three REPEATs: it is a step", x.look(0, STEPS), 8);
        x.step(0, 1);
        CHECK.is("fewer than three REPEATs: so four times ADD 1", x.look(0, LATEST), 4);
    }

    private static void repeatsAreCountedTogether() {
        PatchDesk x = desk(1);
        write(x, 0, false, REPEAT, 0, ADD, 1, REPEAT, 1);
        x.task(0);
        x.step(0, 3);
        CHECK.is("counted together: three of the first", x.frame(0, 0, PLACE), 0);
        x.step(0, 3);
        CHECK.is("counted together: so none of the other", x.frame(0, 0, PLACE), 3);

        PatchDesk y = desk(1);
        patch(y, 0, ADD, 1, ADD, 1, REPEAT, 1, REPEAT, 0);
        y.task(0);
        y.step(0, 3);
        CHECK.is("counted together: of a patch's body, too", y.frame(0, 0, PLACE), 1);
        y.step(0, 4);
        CHECK.is("counted together: the third", y.frame(0, 0, PLACE), 1);
        y.step(0, 2);
        CHECK.is("counted together: the fourth is passed over", y.frame(0, 0, PLACE), 3);
        y.step(0, 1);
        CHECK.is("counted together: and the other REPEAT is", y.frame(0, 0, PLACE), 4);
    }

    private static void repeatsAreCountedOverCalls() {
        PatchDesk x = desk(2);
        write(x, 0, false, CALL, 1, REPEAT, 0);
        write(x, 1, false, ADD, 1);
        x.task(0);
        x.step(0, 15);
        CHECK.is("a CALL between leaves the count: four calls", x.look(0, SUM), 4);
        CHECK.is("a CALL between leaves the count: before the last REPEAT", x.frame(0, 0, PLACE), 1);
        x.step(0, 1);
        CHECK.is("a CALL between leaves the count: the fourth REPEAT is passed over", x.frame(0, 0, PLACE), 2);
    }

    private static void repeatsAreCountedByFrame() {
        PatchDesk x = desk(2);
        write(x, 0, false, REPEAT, 0, CALL, 1, CALL, 1);
        write(x, 1, false, REPEAT, 0);
        x.task(0);
        x.step(0, 5);
        CHECK.is("by frame: the caller has done three", x.look(0, FRAMES), 2);
        x.step(0, 3);
        CHECK.is("by frame: the called one does three of its own", x.frame(0, 1, PLACE), 0);
        x.step(0, 1);
        CHECK.is("by frame: and no fourth", x.frame(0, 1, PLACE), 1);
        x.step(0, 5);
        CHECK.is("by frame: called once more, it does three again", x.frame(0, 1, PLACE), 0);
        x.step(0, 1);
        CHECK.is("by frame: and again no fourth", x.frame(0, 1, PLACE), 1);
    }

    private static void repeatsAreCountedSinceTheCall() {
        PatchDesk x = desk(1);
        write(x, 0, false, REPEAT, 0);
        x.task(0);
        x.step(0, 4);
        CHECK.is("since it was called: three and one passed over", x.frame(0, 0, PLACE), 1);
        x.step(0, 4);
        CHECK.is("since it was called: the only frame anew", x.frame(0, 0, PLACE), 0);
        x.step(0, 1);
        CHECK.is("since it was called: three again", x.frame(0, 0, PLACE), 1);
    }

    private static void outOfNothingAndOfZero() {
        PatchDesk x = desk(1);
        write(x, 0, false, ADD, 7, OUT, 0, ADD, -7, OUT, 0);
        x.task(0);
        x.step(0, 1);
        CHECK.is("0 without: nothing out", x.look(0, OUTS), 0);
        CHECK.is("0 without: the latest", x.look(0, LATEST), 0);
        x.step(0, 1);
        CHECK.is("OUT: one", x.look(0, OUTS), 1);
        CHECK.is("OUT: the sum", x.look(0, LATEST), 7);
        x.step(0, 1);
        CHECK.is("OUT: stays when the sum does not", x.look(0, LATEST), 7);
        x.step(0, 1);
        CHECK.is("OUT: of 0 counts", x.look(0, OUTS), 2);
        CHECK.is("OUT: of 0", x.look(0, LATEST), 0);
    }

    private static void callWhenTheSumIsEven() {
        int[] sums = {0, 1, 2, 99, 98, -1, -2, -99, -98};
        for (int sum : sums) {
            PatchDesk x = desk(2);
            write(x, 0, false, ADD, sum, CALL_WHEN, 1);
            x.task(0);
            x.step(0, 2);
            CHECK.is("CALL WHEN with " + sum, x.look(0, FRAMES), Math.abs(sum) % 2 == 0 ? 2 : 1);
            CHECK.is("CALL WHEN with " + sum + " goes on behind it", x.frame(0, 0, PLACE), 2);
        }
    }

    private static void theEndIsAReturn() {
        PatchDesk x = desk(2);
        write(x, 0, false, CALL, 1, ADD, 1);
        write(x, 1, false, ADD, 10);
        x.task(0);
        x.step(0, 2);
        CHECK.is("a body's end: the frame is still open", x.look(0, FRAMES), 2);
        CHECK.is("a body's end: at the end", x.frame(0, 1, PLACE), 1);
        x.step(0, 1);
        CHECK.is("a body's end: the return is the step", x.look(0, FRAMES), 1);
        CHECK.is("a body's end: and nothing else is done in it", x.look(0, SUM), 10);
        CHECK.is("a body's end: three steps", x.look(0, STEPS), 3);
    }

    private static void anEmptyBodyIsAReturn() {
        PatchDesk x = desk(2);
        write(x, 0, false, CALL, 1, ADD, 1);
        x.task(0);
        x.task(1);
        x.step(0, 1);
        CHECK.is("an empty body: called", x.look(0, FRAMES), 2);
        x.step(0, 1);
        CHECK.is("an empty body: returns with the next step", x.look(0, FRAMES), 1);
        x.step(1, 3);
        CHECK.is("an empty body: as the only frame it stays", x.look(1, FRAMES), 1);
        CHECK.is("an empty body: each return is a step", x.look(1, STEPS), 3);
    }

    private static void aPatchNamesAFunctionOnce() {
        PatchDesk x = desk(2);
        CHECK.is("each once: 0", x.name(0, 0), 1);
        x.operation(0, true, ADD, 1);
        CHECK.fails("each once: 0 again", Check.ARGUMENT, () -> x.name(0, 0));
        CHECK.fails("each once: 0 again with another signature", Check.ARGUMENT, () -> x.name(0, 1));
        CHECK.is("each once: its body and number stay", x.operation(0, true, ADD, 1), 2);
        CHECK.is("each once: 1", x.name(1, 1), 2);
        CHECK.is("each once: applied", x.apply(), 1);
        CHECK.is("each once: the next draft may name 0", x.name(0, 0), 1);
    }

    private static void aPatchNamesAllFunctions() {
        PatchDesk x = desk(8);
        for (int i = 7; i >= 0; i--) {
            CHECK.is("how many it names", x.name(i, i), 8 - i);
            write(x, i, true, ADD, i);
        }
        CHECK.fails("how many it names: no ninth", Check.ARGUMENT, () -> x.name(8, 8));
        CHECK.is("how many it names: applied", x.apply(), 1);
        for (int i = 0; i < 8; i++) {
            CHECK.is("how many it names: all are patched", x.body(i, 1), 1);
        }
    }

    private static void atMostFivePatches() {
        PatchDesk x = desk(2);
        write(x, 0, false, SAFE, 0);
        x.task(0);
        for (int i = 1; i <= 5; i++) {
            CHECK.is("at most 5 patches: number", patch(x, 1, ADD, i), i);
            CHECK.is("at most 5 patches: its target", x.target(), i);
            x.step(0, 2);
            CHECK.is("at most 5 patches: over", x.target(), -1);
        }
        draft(x, 1, ADD, 6);
        CHECK.fails("at most 5 patches: the sixth", Check.STATE, x::apply);
        CHECK.is("at most 5 patches: there are 5", x.patches(), 5);
        CHECK.is("at most 5 patches: no transition came of it", x.target(), -1);
        CHECK.is("at most 5 patches: the task stays at 5", x.look(0, LEVEL), 5);
        CHECK.is("at most 5 patches: level 5 is there", x.body(1, 5), 1);
        CHECK.fails("at most 5 patches: level 6 is not", Check.ELEMENT, () -> x.body(1, 6));
        CHECK.is("at most 5 patches: the draft is empty behind it", x.name(1, 1), 1);
        CHECK.is("at most 5 patches: the fifth back", x.turn(), 4);
        CHECK.fails("at most 5 patches: not while it goes back", Check.STATE, x::apply);
        x.step(0, 2);
        CHECK.is("at most 5 patches: gone", x.patches(), 4);
        CHECK.is("at most 5 patches: another fifth", patch(x, 1), 5);
    }

    private static void theLatestPatchUpToTheLevel() {
        PatchDesk x = desk(3);
        write(x, 0, false, ADD, 1, ADD, 1, ADD, 1);
        patch(x, 0, ADD, 1);
        patch(x, 1, ADD, 1, ADD, 1);
        patch(x, 0);
        patch(x, 1, ADD, 1);
        patch(x, 0, ADD, 1, ADD, 1);
        int[][] due = {{3, 1, 1, 0, 0, 2}, {0, 0, 2, 2, 1, 1}, {0, 0, 0, 0, 0, 0}};
        for (int function = 0; function < 3; function++) {
            for (int level = 0; level <= 5; level++) {
                CHECK.is("body of " + function + " at " + level, x.body(function, level), due[function][level]);
            }
        }
        CHECK.fails("body: level -1", Check.ELEMENT, () -> x.body(0, -1));
        CHECK.fails("body: level 6", Check.ELEMENT, () -> x.body(0, 6));
    }

    private static void tasksUpToThree() {
        PatchDesk x = desk(1);
        for (int i = 0; i <= 3; i++) {
            int number = i;
            CHECK.fails("tasks 0 .. 3: not yet", Check.ARGUMENT, () -> x.step(number, 1));
            CHECK.is("tasks 0 .. 3: number", x.task(0), i);
            CHECK.is("tasks 0 .. 3: level 0 at first", x.look(i, LEVEL), 0);
            CHECK.is("tasks 0 .. 3: steps", x.step(i, 1), 0);
        }
        CHECK.fails("tasks 0 .. 3: a fifth", Check.STATE, () -> x.task(0));
        CHECK.fails("tasks 0 .. 3: no task 4", Check.ARGUMENT, () -> x.step(4, 1));
        CHECK.fails("tasks 0 .. 3: no task 4 to look at", Check.ARGUMENT, () -> x.look(4, 0));
        CHECK.fails("tasks 0 .. 3: no task 4 with frames", Check.ARGUMENT, () -> x.frame(4, 0, 0));
        CHECK.is("tasks 0 .. 3: the fourth is as it was", x.look(3, STEPS), 1);
    }

    private static void atMostSixFrames() {
        PatchDesk x = desk(1);
        write(x, 0, false, CALL, 0, ADD, 1);
        x.task(0);
        x.step(0, 4);
        CHECK.is("at most 6 frames: five", x.look(0, FRAMES), 5);
        CHECK.fails("at most 6 frames: no frame 5 yet", Check.ELEMENT, () -> x.frame(0, 5, OF));
        x.step(0, 1);
        CHECK.is("at most 6 frames: a CALL with five", x.look(0, FRAMES), 6);
        CHECK.is("at most 6 frames: frame 5", x.frame(0, 5, PLACE), 0);
        x.step(0, 1);
        CHECK.is("at most 6 frames: a CALL with six", x.look(0, FRAMES), 6);
        CHECK.is("at most 6 frames: is passed over", x.frame(0, 5, PLACE), 1);
        CHECK.is("at most 6 frames: it is a step", x.look(0, STEPS), 6);
        CHECK.fails("at most 6 frames: no frame 6", Check.ELEMENT, () -> x.frame(0, 6, OF));
        x.step(0, 2);
        CHECK.is("at most 6 frames: the sixth returns", x.look(0, FRAMES), 5);
        CHECK.is("at most 6 frames: behind the CALL", x.frame(0, 4, PLACE), 1);
        x.step(0, 10);
        CHECK.is("at most 6 frames: and so on, to the only one", x.look(0, SUM), 6);
        CHECK.is("at most 6 frames: which is called again", x.frame(0, 0, PLACE), 0);
    }

    private static void callWhenWithSixFrames() {
        PatchDesk x = desk(2);
        write(x, 0, false, CALL_WHEN, 0, CALL_WHEN, 1, CALL, 1, ADD, 2);
        x.task(0);
        x.step(0, 5);
        CHECK.is("CALL WHEN with five frames", x.look(0, FRAMES), 6);
        x.step(0, 3);
        CHECK.is("CALL WHEN with six frames", x.look(0, FRAMES), 6);
        CHECK.is("CALL WHEN with six frames is passed over", x.frame(0, 5, PLACE), 3);
        x.step(0, 2);
        CHECK.is("CALL WHEN: five again", x.look(0, FRAMES), 5);
        x.step(0, 1);
        CHECK.is("CALL WHEN: room for a sixth again", x.look(0, FRAMES), 6);
        CHECK.is("CALL WHEN: of another function", x.frame(0, 5, OF), 1);
        CHECK.is("CALL WHEN: at its start", x.frame(0, 5, PLACE), 0);
    }

    private static void theFrameKeepsItsBody() {
        PatchDesk x = desk(3);
        write(x, 0, false, CALL, 1, CALL, 1);
        write(x, 1, false, SAFE, 0, CALL, 2, ADD, 1);
        write(x, 2, false, ADD, 10);
        x.task(0);
        x.step(0, 1);
        patch(x, 2, ADD, 50, ADD, 50);
        CHECK.is("the frame's body stays: over at SAFE", x.step(0, 1), 1);
        CHECK.is("the frame's level stays", x.frame(0, 1, CALLED_AT), 0);
        CHECK.is("the first frame's too", x.frame(0, 0, CALLED_AT), 0);
        x.step(0, 1);
        CHECK.is("a new frame has the task's level", x.frame(0, 2, CALLED_AT), 1);
        x.step(0, 2);
        CHECK.is("and the body at that level", x.look(0, SUM), 100);
        x.step(0, 1);
        CHECK.is("it returns to the frame that stayed", x.frame(0, 1, PLACE), 2);
        x.step(0, 3);
        CHECK.is("the same function, called behind it", x.frame(0, 1, CALLED_AT), 1);
    }

    private static void theOnlyFrameReturns() {
        PatchDesk x = desk(2);
        write(x, 0, false, SAFE, 0, ADD, 1);
        x.task(0);
        patch(x, 1);
        CHECK.is("the only frame: over at SAFE", x.step(0, 2), 1);
        CHECK.is("the only frame: its level stays", x.frame(0, 0, CALLED_AT), 0);
        x.step(0, 1);
        CHECK.is("the only frame: called again with the task's level", x.frame(0, 0, CALLED_AT), 1);
        CHECK.is("the only frame: still the only one", x.look(0, FRAMES), 1);
        CHECK.is("the only frame: of the same function", x.frame(0, 0, OF), 0);
        CHECK.is("the only frame: at its start", x.frame(0, 0, PLACE), 0);
    }

    private static void stepsUpToAHundred() {
        PatchDesk x = desk(1);
        write(x, 0, false, ADD, 1);
        x.task(0);
        CHECK.fails("steps 1 .. 100: 0", Check.ARGUMENT, () -> x.step(0, 0));
        CHECK.fails("steps 1 .. 100: 101", Check.ARGUMENT, () -> x.step(0, 101));
        CHECK.is("steps 1 .. 100: nothing was done", x.look(0, STEPS), 0);
        CHECK.is("steps 1 .. 100: 1", x.step(0, 1), 0);
        CHECK.is("steps 1 .. 100: one was done", x.look(0, STEPS), 1);
        CHECK.is("steps 1 .. 100: 100", x.step(0, 100), 0);
        CHECK.is("steps 1 .. 100: a hundred were done", x.look(0, STEPS), 101);
        CHECK.is("steps 1 .. 100: every second an ADD", x.look(0, SUM), 51);
    }

    private static void whatIsAskedOfATask() {
        PatchDesk x = desk(1);
        x.task(0);
        CHECK.fails("look: what -1", Check.ARGUMENT, () -> x.look(0, -1));
        CHECK.fails("look: what 6", Check.ARGUMENT, () -> x.look(0, 6));
        CHECK.is("look: what 0", x.look(0, 0), 0);
        CHECK.is("look: what 5", x.look(0, 5), 0);
        CHECK.fails("look: task -1", Check.ARGUMENT, () -> x.look(-1, 0));
        CHECK.fails("look: task 1 of 1", Check.ARGUMENT, () -> x.look(1, 0));
    }

    private static void whatIsAskedOfAFrame() {
        PatchDesk x = desk(2);
        write(x, 0, false, CALL, 1);
        x.task(0);
        CHECK.fails("frame: frame 1 of 1", Check.ELEMENT, () -> x.frame(0, 1, OF));
        x.step(0, 1);
        CHECK.is("frame: frame 1 of 2", x.frame(0, 1, OF), 1);
        CHECK.fails("frame: frame 2 of 2", Check.ELEMENT, () -> x.frame(0, 2, OF));
        CHECK.fails("frame: frame -1", Check.ELEMENT, () -> x.frame(0, -1, OF));
        CHECK.fails("frame: what -1", Check.ARGUMENT, () -> x.frame(0, 0, -1));
        CHECK.fails("frame: what 3", Check.ARGUMENT, () -> x.frame(0, 0, 3));
        CHECK.is("frame: what 0", x.frame(0, 0, 0), 0);
        CHECK.is("frame: what 2", x.frame(0, 0, 2), 1);
        CHECK.fails("frame: task -1", Check.ARGUMENT, () -> x.frame(-1, 0, 0));
        CHECK.fails("frame: task 1 of 1", Check.ARGUMENT, () -> x.frame(1, 0, 0));
        x.step(0, 1);
        CHECK.fails("frame: returned", Check.ELEMENT, () -> x.frame(0, 1, OF));
    }

    private static void functionsAndFirstBodiesAreClosedAndOpenedAgain() {
        PatchDesk x = desk(1);
        patch(x, 0, ADD, 1);
        patch(x, 0, ADD, 1);
        x.turn();
        CHECK.fails("a patch: one of two is left, no function", Check.STATE, () -> x.function(1));
        CHECK.fails("a patch: nor an operation", Check.STATE, () -> x.operation(0, false, ADD, 1));
        x.turn();
        CHECK.is("a patch: none is left, a function", x.function(1), 1);
        CHECK.is("a patch: and an operation", x.operation(0, false, ADD, 1), 1);
        x.task(0);
        CHECK.fails("a task: no function", Check.STATE, () -> x.function(2));
        CHECK.fails("a task: nor an operation", Check.STATE, () -> x.operation(0, false, ADD, 1));
        CHECK.is("a task: the draft goes on", x.name(0, 0), 1);
        CHECK.is("a task: and its operations", x.operation(0, true, ADD, 1), 1);
        patch(x, 1);
        x.turn();
        CHECK.is("a task: the patch is gone", x.patches(), 0);
        CHECK.fails("a task: but the task is not", Check.STATE, () -> x.function(2));
        CHECK.fails("a task: nor for an operation", Check.STATE, () -> x.operation(0, false, ADD, 1));
    }

    private static void everyCallOfALongUse() {
        PatchDesk x = desk(1);
        write(x, 0, false, ADD, -99, REPEAT, 0, REPEAT, 0, OUT, 0);
        x.task(0);
        for (int i = 0; i < 500; i++) {
            x.step(0, 100);
        }
        // A round is 4 ADDs, 4 REPEATs, one more REPEAT, OUT and the return: 11 steps; 50000 = 4545 * 11 + 5.
        CHECK.is("512 calls: steps", x.look(0, STEPS), 50000);
        CHECK.is("512 calls: sum", x.look(0, SUM), -99 * (4545 * 4 + 3));
        CHECK.is("512 calls: how many out", x.look(0, OUTS), 4545);
        CHECK.is("512 calls: the latest out", x.look(0, LATEST), -99 * 4545 * 4);
    }
}
