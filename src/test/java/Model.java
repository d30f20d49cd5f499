import java.util.ArrayDeque;
import java.util.ArrayList;
import java.util.Deque;
import java.util.HashMap;
import java.util.List;
import java.util.Map;
import java.util.NoSuchElementException;

/**
 * The document written a second time, from its Terms and in another way than PatchDesk: a transition is a patch and
 * a direction, bodies are copied lists, frames are made anew at each call.
 */
final class Model {
    record Operation(int kind, int n) { }

    record Patch(Map<Integer, List<Operation>> bodies) { }

    static final class Frame {
        final int function;
        final int level;
        final List<Operation> body;
        int next;
        int repeats;

        Frame(int function, int level, List<Operation> body) {
            this.function = function;
            this.level = level;
            this.body = List.copyOf(body);
        }

        boolean atEnd() {
            return next == body.size();
        }
    }

    static final class Task {
        final ArrayList<Frame> frames = new ArrayList<>();
        final Deque<Integer> out = new ArrayDeque<>();
        int level;
        int sum;
        int steps;

        Frame top() {
            return frames.get(frames.size() - 1);
        }
    }

    private final List<Integer> signatures = new ArrayList<>();
    private final List<List<Operation>> firsts = new ArrayList<>();
    private final List<Patch> patches = new ArrayList<>();
    private final List<Task> tasks = new ArrayList<>();
    private Map<Integer, List<Operation>> draftBodies = new HashMap<>();
    private Map<Integer, Integer> draftSignatures = new HashMap<>();
    private boolean transition;
    private boolean forwards;

    int function(int signature) {
        argument(signature >= 0 && signature <= 9);
        state(signatures.size() < 8 && tasks.isEmpty() && patches.isEmpty());
        signatures.add(signature);
        firsts.add(new ArrayList<>());
        return firsts.size() - 1;
    }

    int operation(int function, boolean ofDraft, int kind, int n) {
        argument(function >= 0 && function < firsts.size());
        argument(!ofDraft || draftBodies.containsKey(function));
        List<Operation> body = ofDraft ? draftBodies.get(function) : firsts.get(function);
        argument(kind >= 0 && kind <= 5);
        argument(kind != 0 || (n >= -99 && n <= 99));
        argument((kind != 1 && kind != 5) || (n >= 0 && n < firsts.size()));
        argument(kind != 3 || (n >= 0 && n <= body.size()));
        state(ofDraft || (tasks.isEmpty() && patches.isEmpty()));
        state(body.size() < 12);
        body.add(new Operation(kind, n));
        return body.size();
    }

    int name(int function, int signature) {
        argument(function >= 0 && function < firsts.size());
        argument(!draftBodies.containsKey(function));
        argument(signature >= 0 && signature <= 9);
        draftBodies.put(function, new ArrayList<>());
        draftSignatures.put(function, signature);
        return draftBodies.size();
    }

    int apply() {
        Map<Integer, List<Operation>> bodies = draftBodies;
        Map<Integer, Integer> asked = draftSignatures;
        draftBodies = new HashMap<>();
        draftSignatures = new HashMap<>();
        argument(!bodies.isEmpty());
        for (Map.Entry<Integer, Integer> entry : asked.entrySet()) {
            if (!signatures.get(entry.getKey()).equals(entry.getValue())) {
                throw new UnsupportedOperationException();
            }
        }
        state(!transition);
        state(patches.size() < 5);
        patches.add(new Patch(bodies));
        int number = patches.size();
        transition = true;
        forwards = true;
        settle();
        return number;
    }

    int turn() {
        state(transition || !patches.isEmpty());
        forwards = transition && !forwards;
        transition = true;
        int target = target();
        settle();
        return target;
    }

    int task(int function) {
        argument(function >= 0 && function < firsts.size());
        state(tasks.size() < 4);
        Task task = new Task();
        task.level = transition ? target() : patches.size();
        task.frames.add(called(function, task.level));
        tasks.add(task);
        return tasks.size() - 1;
    }

    int step(int number, int steps) {
        argument(number >= 0 && number < tasks.size());
        argument(steps >= 1 && steps <= 100);
        Task task = tasks.get(number);
        int over = 0;
        for (int i = 1; i <= steps; i++) {
            if (transition && task.level != target() && isSafe(task)) {
                task.level = target();
                over = i;
                settle();
            }
            step(task);
        }
        return over;
    }

    int look(int number, int what) {
        argument(number >= 0 && number < tasks.size());
        argument(what >= 0 && what <= 5);
        Task task = tasks.get(number);
        int latest = task.out.isEmpty() ? 0 : task.out.getLast();
        return List.of(task.level, task.sum, task.frames.size(), task.steps, task.out.size(), latest).get(what);
    }

    int frame(int number, int k, int what) {
        argument(number >= 0 && number < tasks.size());
        argument(what >= 0 && what <= 2);
        Task task = tasks.get(number);
        element(k >= 0 && k < task.frames.size());
        Frame frame = task.frames.get(k);
        return List.of(frame.function, frame.level, frame.next).get(what);
    }

    int patches() {
        return patches.size();
    }

    int target() {
        if (!transition) {
            return -1;
        }
        return forwards ? patches.size() : patches.size() - 1;
    }

    int body(int function, int level) {
        argument(function >= 0 && function < firsts.size());
        element(level >= 0 && level <= patches.size());
        return bodyOf(function, level).size();
    }

    private List<Operation> bodyOf(int function, int level) {
        if (level == 0) {
            return firsts.get(function);
        }
        List<Operation> patched = patches.get(level - 1).bodies().get(function);
        return patched != null ? patched : bodyOf(function, level - 1);
    }

    private Frame called(int function, int level) {
        return new Frame(function, level, bodyOf(function, level));
    }

    private void settle() {
        int target = target();
        if (tasks.stream().allMatch(task -> task.level == target)) {
            transition = false;
            if (!forwards) {
                patches.remove(patches.size() - 1);
            }
        }
    }

    private boolean isSafe(Task task) {
        Frame top = task.top();
        if (top.atEnd()) {
            return task.frames.size() == 1;
        }
        Map<Integer, List<Operation>> named = patches.get(patches.size() - 1).bodies();
        return top.body.get(top.next).kind() == 2
                && task.frames.stream().noneMatch(frame -> named.containsKey(frame.function));
    }

    private void step(Task task) {
        task.steps++;
        Frame top = task.top();
        if (top.atEnd()) {
            task.frames.remove(task.frames.size() - 1);
            if (task.frames.isEmpty()) {
                task.frames.add(called(top.function, task.level));
            }
            return;
        }
        Operation done = top.body.get(top.next++);
        boolean calls = done.kind() == 1 || (done.kind() == 5 && Math.floorMod(task.sum, 2) == 0);
        if (calls && task.frames.size() < 6) {
            task.frames.add(called(done.n(), task.level));
        } else if (done.kind() == 0) {
            task.sum += done.n();
        } else if (done.kind() == 3 && top.repeats < 3) {
            top.repeats++;
            top.next = done.n();
        } else if (done.kind() == 4) {
            task.out.addLast(task.sum);
        }
    }

    private static void argument(boolean holds) {
        if (!holds) {
            throw new IllegalArgumentException();
        }
    }

    private static void state(boolean holds) {
        if (!holds) {
            throw new IllegalStateException();
        }
    }

    private static void element(boolean holds) {
        if (!holds) {
            throw new NoSuchElementException();
        }
    }
}
