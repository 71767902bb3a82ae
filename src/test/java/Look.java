import java.util.ArrayList;
import java.util.List;

/** All that can be asked of a kernel, in rows that can be compared. */
final class Look {
    private Look() {
    }

    /** 8 calls, and 1 more for each number that the stack has room for. */
    static List<Integer> atTask(TaskKernel x, int t, int stackRoom) {
        List<Integer> seen = new ArrayList<>(List.of(x.state(t), x.why(t)));
        for (int which = 0; which < 6; which++) {
            seen.add(x.task(t, which));
        }
        for (int k = 0; k < stackRoom; k++) {
            seen.add(x.stack(t, k));
        }
        return seen;
    }

    /** 9 calls, and 1 more for each number that the queue has room for. */
    static List<Integer> atQueue(TaskKernel x, int q, int room) {
        List<Integer> seen = new ArrayList<>(List.of(x.queue(q)));
        for (int k = 0; k < room; k++) {
            seen.add(x.queued(q, k));
        }
        for (int k = 0; k < 4; k++) {
            seen.add(x.waiter(q, true, k));
            seen.add(x.waiter(q, false, k));
        }
        return seen;
    }

    /** What belongs to no task and no queue, 26 calls. */
    static List<Integer> atTheRest(TaskKernel x) {
        List<Integer> seen = new ArrayList<>(List.of(x.emitted(), x.clock()));
        for (int a = 0; a < 16; a++) {
            seen.add(x.memory(a));
        }
        for (int k = 0; k < 8; k++) {
            seen.add(x.out(k));
        }
        return seen;
    }
}
