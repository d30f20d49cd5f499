import java.util.ArrayList;
import java.util.NoSuchElementException;

/** A desk that patches programs while they run; the document's promises say how. */
public final class PatchDesk {
    private static final int MAX_FUNCTIONS = 8;
    private static final int MAX_SIGNATURE = 9;
    private static final int MAX_OPERATIONS = 12;
    private static final int MAX_ADDEND = 99;
    private static final int MAX_PATCHES = 5;
    private static final int MAX_TASKS = 4;
    private static final int MAX_FRAMES = 6;
    private static final int MAX_REPEATS = 3;
    private static final int MAX_STEPS = 100;

    private static final int ADD = 0;
    private static final int CALL = 1;
    private static final int SAFE = 2;
    private static final int REPEAT = 3;
    private static final int OUT = 4;
    private static final int CALL_WHEN = 5;
    /** What stands behind a body's last operation; no caller can write it. */
    private static final int RETURN = -1;

    private static final int NO_TRANSITION = -1;

    private final ArrayList<Function> functions;
    private final ArrayList<Patch> applied;
    private final ArrayList<Task> tasks;
    private Patch draft;
    /** The transition's target; its patch is always the latest one, so this alone tells the direction. */
    private int goal;

    public PatchDesk() {
        functions = new ArrayList<>();
        applied = new ArrayList<>();
        tasks = new ArrayList<>();
        draft = new Patch();
        goal = NO_TRANSITION;
    }

    public int function(int signature) throws IllegalArgumentException, IllegalStateException {
        if (!isSignature(signature)) {
            throw new IllegalArgumentException("a signature is 0 .. 9");
        }
        if (functions.size() >= MAX_FUNCTIONS || isInUse()) {
            throw new IllegalStateException("no more functions: there are 8, or a task, or a patch");
        }
        functions.add(new Function(signature));
        return functions.size() - 1;
    }

    public int operation(int function, boolean ofDraft, int kind, int n)
            throws IllegalArgumentException, IllegalStateException {
        if (!isFunction(function) || (ofDraft && !draft.hasNamed(function))) {
            throw new IllegalArgumentException("no such function, or not in the draft");
        }
        Body written = ofDraft ? draft.bodies[function] : functions.get(function).first;
        if (!isOperation(kind, n, written.size)) {
            throw new IllegalArgumentException("no such operation, or not with this number");
        }
        if ((!ofDraft && isInUse()) || written.isFull()) {
            throw new IllegalStateException("the body is closed by a task or a patch, or has 12 operations");
        }
        written.append(kind, n);
        return written.size;
    }

    public int name(int function, int signature) throws IllegalArgumentException {
        if (!isFunction(function) || draft.hasNamed(function) || !isSignature(signature)) {
            throw new IllegalArgumentException("no such function, named already, or no such signature");
        }
        draft.include(function, signature);
        return draft.named;
    }

    public int apply() throws IllegalArgumentException, UnsupportedOperationException, IllegalStateException {
        Patch patch = draft;
        draft = new Patch();
        if (patch.named == 0) {
            throw new IllegalArgumentException("the draft names no function");
        }
        if (!keepsSignatures(patch)) {
            throw new UnsupportedOperationException("a signature is another one than the function's");
        }
        if (goal != NO_TRANSITION || applied.size() >= MAX_PATCHES) {
            throw new IllegalStateException("a transition goes on, or there are 5 patches");
        }
        applied.add(patch);
        int number = applied.size();
        headFor(number);
        return number;
    }

    public int turn() throws IllegalStateException {
        int latest = applied.size();
        if (latest == 0) {
            throw new IllegalStateException("no transition and no patch");
        }
        boolean isBackwards = goal == latest - 1;
        int turned = isBackwards ? latest : latest - 1;
        headFor(turned);
        return turned;
    }

    public int task(int function) throws IllegalArgumentException, IllegalStateException {
        if (!isFunction(function)) {
            throw new IllegalArgumentException("no such function");
        }
        if (tasks.size() >= MAX_TASKS) {
            throw new IllegalStateException("there are 4 tasks");
        }
        int level = goal == NO_TRANSITION ? applied.size() : goal;
        tasks.add(new Task(function, level, bodyAt(function, level)));
        return tasks.size() - 1;
    }

    public int step(int task, int steps) throws IllegalArgumentException {
        if (!isTask(task) || steps < 1 || steps > MAX_STEPS) {
            throw new IllegalArgumentException("no such task, or steps is not 1 .. 100");
        }
        Task stepped = tasks.get(task);
        int wentOverIn = 0;
        for (int count = 1; count <= steps; count++) {
            if (canGoOver(stepped)) {
                stepped.level = goal;
                endTransitionWhenAllAreOver();
                wentOverIn = count;
            }
            stepOnce(stepped);
        }
        return wentOverIn;
    }

    public int look(int task, int what) throws IllegalArgumentException {
        if (!isTask(task) || what < 0 || what > 5) {
            throw new IllegalArgumentException("no such task or what");
        }
        Task seen = tasks.get(task);
        switch (what) {
            case 0: return seen.level;
            case 1: return seen.sum;
            case 2: return seen.depth;
            case 3: return seen.steps;
            case 4: return seen.outs;
            default: return seen.latestOut;
        }
    }

    public int frame(int task, int k, int what) throws IllegalArgumentException, NoSuchElementException {
        if (!isTask(task) || what < 0 || what > 2) {
            throw new IllegalArgumentException("no such task or what");
        }
        Task seen = tasks.get(task);
        if (k < 0 || k >= seen.depth) {
            throw new NoSuchElementException("no such frame");
        }
        Frame frame = seen.frames[k];
        switch (what) {
            case 0: return frame.function;
            case 1: return frame.level;
            default: return frame.place;
        }
    }

    public int patches() {
        return applied.size();
    }

    public int target() {
        return goal;
    }

    public int body(int function, int level) throws IllegalArgumentException, NoSuchElementException {
        if (!isFunction(function)) {
            throw new IllegalArgumentException("no such function");
        }
        if (level < 0 || level > applied.size()) {
            throw new NoSuchElementException("no such level");
        }
        return bodyAt(function, level).size;
    }

    private boolean isFunction(int function) {
        return function >= 0 && function < functions.size();
    }

    private boolean isTask(int task) {
        return task >= 0 && task < tasks.size();
    }

    private static boolean isSignature(int signature) {
        return signature >= 0 && signature <= MAX_SIGNATURE;
    }

    /** From the first task or patch on, the functions and their first bodies stay as they are. */
    private boolean isInUse() {
        return !tasks.isEmpty() || !applied.isEmpty();
    }

    private boolean isOperation(int kind, int n, int ownPlace) {
        switch (kind) {
            case ADD: return n >= -MAX_ADDEND && n <= MAX_ADDEND;
            case CALL:
            case CALL_WHEN: return isFunction(n);
            case REPEAT: return n >= 0 && n <= ownPlace;
            case SAFE:
            case OUT: return true;
            default: return false;
        }
    }

    private boolean keepsSignatures(Patch patch) {
        for (int function = 0; function < functions.size(); function++) {
            if (patch.hasNamed(function) && patch.signatures[function] != functions.get(function).signature) {
                return false;
            }
        }
        return true;
    }

    /** A later patch goes before an earlier one, and every patch before the first body. */
    private Body bodyAt(int function, int level) {
        Body found = functions.get(function).first;
        for (int index = 0; index < level && index < applied.size(); index++) {
            Patch patch = applied.get(index);
            if (patch.hasNamed(function)) {
                found = patch.bodies[function];
            }
        }
        return found;
    }

    private void headFor(int level) {
        goal = level;
        endTransitionWhenAllAreOver();
    }

    private void endTransitionWhenAllAreOver() {
        for (int index = 0; index < tasks.size(); index++) {
            if (tasks.get(index).level != goal) {
                return;
            }
        }
        if (goal < applied.size()) {
            applied.remove(applied.size() - 1);
        }
        goal = NO_TRANSITION;
    }

    private boolean canGoOver(Task task) {
        if (goal == NO_TRANSITION || task.level == goal) {
            return false;
        }
        int next = task.top().nextKind();
        if (next == RETURN) {
            return task.depth == 1;
        }
        return next == SAFE && !hasPatchedFrame(task);
    }

    private boolean hasPatchedFrame(Task task) {
        for (int k = 0; k < task.depth; k++) {
            if (isInLatestPatch(task.frames[k].function)) {
                return true;
            }
        }
        return false;
    }

    private boolean isInLatestPatch(int function) {
        return !applied.isEmpty() && applied.get(applied.size() - 1).hasNamed(function);
    }

    private void stepOnce(Task task) {
        task.steps++;
        Frame frame = task.top();
        int kind = frame.nextKind();
        if (kind == RETURN) {
            leaveTopFrame(task);
            return;
        }
        int n = frame.nextNumber();
        frame.place++;
        switch (kind) {
            case ADD:
                task.sum += n;
                break;
            case CALL:
                enter(task, n);
                break;
            case REPEAT:
                frame.repeatFrom(n);
                break;
            case OUT:
                task.putOut();
                break;
            case CALL_WHEN:
                if (task.sum % 2 == 0) {
                    enter(task, n);
                }
                break;
            default:
                break;
        }
    }

    private void enter(Task task, int function) {
        if (task.depth < MAX_FRAMES) {
            task.depth++;
            task.top().begin(function, task.level, bodyAt(function, task.level));
        }
    }

    private void leaveTopFrame(Task task) {
        if (task.depth > 1) {
            task.depth--;
        } else {
            int function = task.top().function;
            task.top().begin(function, task.level, bodyAt(function, task.level));
        }
    }

    private static final class Function {
        final int signature;
        final Body first;

        Function(int signature) {
            this.signature = signature;
            this.first = new Body();
        }
    }

    private static final class Body {
        final int[] kinds;
        final int[] numbers;
        int size;

        Body() {
            kinds = new int[MAX_OPERATIONS];
            numbers = new int[MAX_OPERATIONS];
        }

        boolean isFull() {
            return size >= MAX_OPERATIONS;
        }

        void append(int kind, int n) {
            kinds[size] = kind;
            numbers[size] = n;
            size++;
        }
    }

    /** The functions that a patch names; where it names none, there is no body. */
    private static final class Patch {
        final Body[] bodies;
        final int[] signatures;
        int named;

        Patch() {
            bodies = new Body[MAX_FUNCTIONS];
            signatures = new int[MAX_FUNCTIONS];
        }

        boolean hasNamed(int function) {
            return bodies[function] != null;
        }

        void include(int function, int signature) {
            bodies[function] = new Body();
            signatures[function] = signature;
            named++;
        }
    }

    private static final class Frame {
        int function;
        int level;
        /** Kept here, not looked up again: it stays the frame's when the task's level changes. */
        Body body;
        int place;
        int repeats;

        Frame(Body body) {
            this.body = body;
        }

        void begin(int function, int level, Body body) {
            this.function = function;
            this.level = level;
            this.body = body;
            place = 0;
            repeats = 0;
        }

        int nextKind() {
            return place < body.size ? body.kinds[place] : RETURN;
        }

        int nextNumber() {
            return place < body.size ? body.numbers[place] : 0;
        }

        void repeatFrom(int first) {
            if (repeats < MAX_REPEATS) {
                repeats++;
                place = first;
            }
        }
    }

    private static final class Task {
        /** All six are made at once and used again, so that calls make no objects; depth of them stand open. */
        final Frame[] frames;
        int depth;
        int level;
        int sum;
        int steps;
        int outs;
        int latestOut;

        Task(int function, int level, Body body) {
            this.level = level;
            frames = new Frame[MAX_FRAMES];
            for (int k = 0; k < MAX_FRAMES; k++) {
                frames[k] = new Frame(body);
            }
            frames[0].begin(function, level, body);
            depth = 1;
        }

        Frame top() {
            return frames[depth - 1];
        }

        void putOut() {
            outs++;
            latestOut = sum;
        }
    }
}
