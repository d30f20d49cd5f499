import com.sun.management.ThreadMXBean;
import java.lang.management.ManagementFactory;
import java.util.function.Consumer;

/**
 * What calls make. A run has room for 600,000 objects and 7.3 million fields and elements; an object takes 16 bytes or
 * more and a field or an element that the class has 4, so a run that makes less than 9 MB has room enough.
 */
public final class RoomTest extends Desks {
    private static final ThreadMXBean THREADS = (ThreadMXBean) ManagementFactory.getThreadMXBean();
    private static final int CALLS = 490;
    private static final long ROOM = 9_000_000;

    public static void main(String[] args) {
        callsThatMakeNothing();
        dearestCalls();
        CHECK.end("RoomTest");
    }

    private static void callsThatMakeNothing() {
        makesNothing("step", desk -> desk.step(0, 100));
        makesNothing("look", desk -> desk.look(0, SUM));
        makesNothing("frame", desk -> desk.frame(0, 0, PLACE));
        makesNothing("patches", PatchDesk::patches);
        makesNothing("target", PatchDesk::target);
        makesNothing("body", desk -> desk.body(0, 1));
        makesNothing("turn", PatchDesk::turn);
    }

    private static void dearestCalls() {
        int[] turn = {0};
        makesLittle("names all functions and applies, by turns", desk -> {
            int at = turn[0]++ % 9;
            if (at < 8) {
                desk.name(at, at);
            } else {
                refused(desk::apply);
            }
        });
        makesLittle("applies nothing", desk -> refused(desk::apply));
        makesLittle("writes what is refused", desk -> refused(() -> desk.operation(0, false, ADD, 1)));
    }

    private static void refused(Runnable call) {
        try {
            call.run();
        } catch (RuntimeException e) {
            return;
        }
    }

    /** Two tasks, one of them over, so that a turn never ends the transition. */
    private static PatchDesk halfWay() {
        PatchDesk desk = desk(8);
        write(desk, 0, false, CALL, 1, SAFE, 0, CALL_WHEN, 1, REPEAT, 0, OUT, 0);
        write(desk, 1, false, ADD, 1, CALL, 0);
        desk.task(0);
        desk.task(0);
        patch(desk, 2);
        desk.step(1, 100);
        return desk;
    }

    private static void makesNothing(String what, Consumer<PatchDesk> call) {
        made(call);
        long bytes = made(call);
        CHECK.holds(what + " makes no object (" + bytes + " bytes in " + CALLS + " calls)", bytes < CALLS);
    }

    private static void makesLittle(String what, Consumer<PatchDesk> call) {
        long bytes = made(call);
        CHECK.holds("who " + what + " has room (" + bytes + " bytes in " + CALLS + " calls)", bytes < ROOM / 2);
    }

    private static long made(Consumer<PatchDesk> call) {
        PatchDesk desk = halfWay();
        long before = THREADS.getCurrentThreadAllocatedBytes();
        for (int i = 0; i < CALLS; i++) {
            call.accept(desk);
        }
        return THREADS.getCurrentThreadAllocatedBytes() - before;
    }
}
