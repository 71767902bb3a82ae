import java.util.ArrayList;
import java.util.List;

/**
 * "A call that answers -1, -2, NONE or false changes nothing": of two kernels with the same past one gets the refused
 * call; all that can be asked of them, then and after the same calls more, must be alike.
 */
public final class RefusedCallsTest {
    private static final int NONE = TaskKernel.NONE;
    private static final int MIN = Integer.MIN_VALUE;
    private static final int MAX = Integer.MAX_VALUE;
    private static final int[] FAR = {MIN, -2, -1, 64, 65, 1000, MAX};
    private static final int TASKS = 6;
    private static final int STACK_ROOM = 3;
    private static final int QUEUES = 2;
    private static final int QUEUE_ROOM = 1;
    private static final Check CHECK = new Check("RefusedCallsTest");

    /** What a kernel has gone through before the refused call. */
    private enum Past { NEW, ONE_OF_EACH, ALL_LIVE, NONE_READY, ALL_ENDED }

    private interface Call {
        long on(TaskKernel kernel);
    }

    private record Refused(String name, long answer, Call call) {
    }

    public static void main(String[] args) {
        CHECK.sentence("A call that answers -1, -2, NONE or false changes nothing.");
        for (Past past : Past.values()) {
            for (Refused refused : refusedAlways()) {
                dueNoChange(past, refused);
            }
        }
        for (Refused refused : refusedOfFree()) {
            dueNoChange(Past.NEW, refused);
            dueNoChange(Past.ONE_OF_EACH, refused);
            dueNoChange(Past.ALL_ENDED, refused);
        }
        Refused noneFree = new Refused("spawn(0, 0)", -1, x -> x.spawn(0, 0));
        dueNoChange(Past.ALL_LIVE, noneFree);
        dueNoChange(Past.NONE_READY, noneFree);
        for (Past past : new Past[] {Past.NEW, Past.NONE_READY, Past.ALL_ENDED}) {
            dueNoChange(past, new Refused("step()", -1, TaskKernel::step));
            dueNoChange(past, new Refused("next()", -1, TaskKernel::next));
        }
        for (Past past : new Past[] {Past.ONE_OF_EACH, Past.ALL_LIVE, Past.NONE_READY, Past.ALL_ENDED}) {
            dueNoChange(past, new Refused("poke(0, 0)", 0, x -> x.poke(0, 0) ? 1 : 0));
            dueNoChange(past, new Refused("poke(63, -1)", 0, x -> x.poke(63, -1) ? 1 : 0));
        }
        CHECK.finish();
    }

    private static List<Refused> refusedAlways() {
        List<Refused> calls = new ArrayList<>();
        for (int far : FAR) {
            calls.add(new Refused("poke(" + far + ", 33)", 0, x -> x.poke(far, 33) ? 1 : 0));
            calls.add(new Refused("spawn(" + far + ", 3)", -2, x -> x.spawn(far, 3)));
            calls.add(new Refused("spawn(3, " + far + ")", -2, x -> x.spawn(3, far)));
            calls.add(new Refused("kill(" + far + ")", 0, x -> x.kill(far) ? 1 : 0));
            calls.add(new Refused("state(" + far + ")", -1, x -> x.state(far)));
            calls.add(new Refused("task(" + far + ", 0)", NONE, x -> x.task(far, 0)));
            calls.add(new Refused("task(0, " + far + ")", NONE, x -> x.task(0, far)));
            calls.add(new Refused("stack(" + far + ", 0)", NONE, x -> x.stack(far, 0)));
            calls.add(new Refused("stack(0, " + far + ")", NONE, x -> x.stack(0, far)));
            calls.add(new Refused("queue(" + far + ")", -1, x -> x.queue(far)));
            calls.add(new Refused("queued(" + far + ", 0)", NONE, x -> x.queued(far, 0)));
            calls.add(new Refused("queued(1, " + far + ")", NONE, x -> x.queued(1, far)));
            calls.add(new Refused("waiter(" + far + ", true, 0)", -1, x -> x.waiter(far, true, 0)));
            calls.add(new Refused("waiter(1, false, " + far + ")", -1, x -> x.waiter(1, false, far)));
            calls.add(new Refused("memory(" + far + ")", NONE, x -> x.memory(far)));
            calls.add(new Refused("out(" + far + ")", NONE, x -> x.out(far)));
            calls.add(new Refused("why(" + far + ")", -1, x -> x.why(far)));
        }
        int[] wrongSteps = {MIN, -1, 0, 65, MAX};
        for (int n : wrongSteps) {
            calls.add(new Refused("run(" + n + ")", -1, x -> x.run(n)));
        }
        calls.add(new Refused("spawn(0, 8)", -2, x -> x.spawn(0, 8)));
        calls.add(new Refused("kill(6)", 0, x -> x.kill(TASKS) ? 1 : 0));
        calls.add(new Refused("state(6)", -1, x -> x.state(TASKS)));
        calls.add(new Refused("why(6)", -1, x -> x.why(TASKS)));
        calls.add(new Refused("task(0, 6)", NONE, x -> x.task(0, 6)));
        calls.add(new Refused("queue(2)", -1, x -> x.queue(QUEUES)));
        calls.add(new Refused("memory(16)", NONE, x -> x.memory(16)));
        calls.add(new Refused("out(32)", NONE, x -> x.out(32)));
        return calls;
    }

    /** Task 5 is free in the pasts that these are for. */
    private static List<Refused> refusedOfFree() {
        List<Refused> calls = new ArrayList<>();
        calls.add(new Refused("kill(5)", 0, x -> x.kill(5) ? 1 : 0));
        calls.add(new Refused("task(5, 0)", NONE, x -> x.task(5, 0)));
        calls.add(new Refused("stack(5, 0)", NONE, x -> x.stack(5, 0)));
        return calls;
    }

    private static void dueNoChange(Past past, Refused refused) {
        TaskKernel plain = kernel(past);
        TaskKernel asked = kernel(past);
        String about = past + ": after " + refused.name;
        CHECK.due(past + ": " + refused.name, refused.answer, refused.call.on(asked));
        dueAlike(about, lookAt(plain), lookAt(asked));
        dueAlike(about + " and more calls", goOn(plain), goOn(asked));
        dueAlike(about + " and more calls, at last", lookAt(plain), lookAt(asked));
    }

    private static void dueAlike(String about, List<Integer> plain, List<Integer> asked) {
        CHECK.due(about + ": how many answers", plain.size(), asked.size());
        for (int i = 0; i < plain.size(); i++) {
            CHECK.due(about + ": answer " + i, plain.get(i), asked.get(i));
        }
    }

    private static TaskKernel kernel(Past past) {
        TaskKernel x = new TaskKernel(TASKS, STACK_ROOM, QUEUES, QUEUE_ROOM);
        Words.load(x, 0, Words.word(Words.YIELD, 0), Words.word(Words.CLOCK, 0), Words.word(Words.EMIT, 0),
            Words.word(Words.JUMP, 0));
        Words.load(x, 10, Words.push(6), Words.push(2), Words.word(Words.SLEEP, 0), Words.word(Words.JUMP, 11));
        Words.load(x, 20, Words.push(8), Words.word(Words.SEND, 1), Words.word(Words.JUMP, 20));
        Words.load(x, 30, Words.word(Words.RECEIVE, 0), Words.push(3), Words.word(Words.STORE, 0), Words.word(Words.JUMP, 30));
        Words.load(x, 40, Words.word(Words.RECEIVE, 1), Words.word(Words.SEND, 0), Words.word(Words.END, 0));
        if (past == Past.NEW) {
            return x;
        }
        x.spawn(0, 1);
        x.spawn(10, 2);
        x.spawn(20, 2);
        x.spawn(30, 2);
        x.run(20);
        if (past == Past.ALL_LIVE || past == Past.NONE_READY) {
            x.spawn(30, 1);
            x.spawn(0, 1);
        }
        if (past == Past.NONE_READY) {
            replaceByReceiver(x, 0);
            replaceByReceiver(x, 5);
            x.run(64);
        }
        for (int t = 0; past == Past.ALL_ENDED && t < TASKS; t++) {
            x.kill(t);
        }
        return x;
    }

    private static void replaceByReceiver(TaskKernel x, int t) {
        x.kill(t);
        x.spawn(30, 1);
    }

    /** Some 115 calls. */
    private static List<Integer> lookAt(TaskKernel x) {
        List<Integer> seen = new ArrayList<>(List.of(x.next()));
        for (int t = 0; t < TASKS; t++) {
            seen.addAll(Look.atTask(x, t, STACK_ROOM));
        }
        for (int q = 0; q < QUEUES; q++) {
            seen.addAll(Look.atQueue(x, q, QUEUE_ROOM));
        }
        seen.addAll(Look.atTheRest(x));
        return seen;
    }

    private static List<Integer> goOn(TaskKernel x) {
        List<Integer> answers = new ArrayList<>();
        answers.add(x.poke(63, Words.push(5)) ? 1 : 0);
        for (int i = 0; i < 8; i++) {
            answers.add(x.step());
        }
        answers.add(x.tick());
        answers.add(x.spawn(40, 7));
        answers.add(x.spawn(0, 1));
        for (int i = 0; i < 6; i++) {
            answers.add(x.run(7));
            answers.add(x.tick());
            answers.add(x.next());
        }
        answers.add(x.spawn(63, 7));
        answers.add(x.run(64));
        return answers;
    }
}
