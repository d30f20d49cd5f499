/** Words and small programs that several tests use. */
abstract class Desks {
    static final int ADD = 0;
    static final int CALL = 1;
    static final int SAFE = 2;
    static final int REPEAT = 3;
    static final int OUT = 4;
    static final int CALL_WHEN = 5;

    static final int LEVEL = 0;
    static final int SUM = 1;
    static final int FRAMES = 2;
    static final int STEPS = 3;
    static final int OUTS = 4;
    static final int LATEST = 5;

    static final int OF = 0;
    static final int CALLED_AT = 1;
    static final int PLACE = 2;

    static final Check CHECK = new Check();

    /** Functions 0 .. count - 1 with empty bodies, each with its number as its signature. */
    static PatchDesk desk(int count) {
        PatchDesk desk = new PatchDesk();
        functions(desk, count);
        return desk;
    }

    static void functions(PatchDesk desk, int count) {
        for (int i = 0; i < count; i++) {
            desk.function(i);
        }
    }

    /** Writes kind, n, kind, n, .. into a body. */
    static void write(PatchDesk desk, int function, boolean ofDraft, int... code) {
        for (int i = 0; i < code.length; i += 2) {
            desk.operation(function, ofDraft, code[i], code[i + 1]);
        }
    }

    /** Names a function of desk(..) in the draft. */
    static void draft(PatchDesk desk, int function, int... code) {
        desk.name(function, function);
        write(desk, function, true, code);
    }

    /** Applies a patch of one function of desk(..). */
    static int patch(PatchDesk desk, int function, int... code) {
        draft(desk, function, code);
        return desk.apply();
    }
}
