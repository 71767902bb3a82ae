/** The sentences on SENDING and RECEIVING: a test of its own for each of their cases. */
public final class QueueEdgesTest {
    private static final int NONE = TaskKernel.NONE;
    private static final int SEND_7 = 0;
    private static final int SEND_SELF = 10;
    private static final int RECEIVE = 20;
    private static final int RECEIVE_ON_ONE = 30;
    private static final int RECEIVE_ON_TWO = 40;
    private static final Check CHECK = new Check("QueueEdgesTest");

    public static void main(String[] args) {
        firstReceiverGetsIt();
        receiverWithRoomForOne();
        receiverBecomesReady();
        numberIsTheLastInTheQueue();
        senderWaitsWhenTheQueueIsFull();
        senderIsTheLastOneThatWaits();
        firstNumberIsPutOnTheStack();
        queueGoesRoundAndRound();
        firstSendersNumberIsTheLastInTheQueue();
        firstSenderBecomesReady();
        receiverWaitsWhenTheQueueIsEmpty();
        receiverIsTheLastOneThatWaits();
        receiverMustHaveRoom();
        putOnAFullStackIsTheFirstThingDone();
        endsOfTheNumbers();
        CHECK.finish();
    }

    private static void due(String call, long want, long got) {
        CHECK.due(call, want, got);
    }

    private static int w(int op, int x) {
        return Words.word(op, x);
    }

    /** W is 2, and there are two queues, of which the words use queue 1. */
    private static TaskKernel kernel(int room) {
        TaskKernel x = new TaskKernel(8, 2, 2, room);
        Words.load(x, SEND_7, Words.push(7), w(Words.SEND, 1), w(Words.JUMP, SEND_7));
        Words.load(x, SEND_SELF, w(Words.SELF, 0), w(Words.SEND, 1), w(Words.JUMP, SEND_SELF));
        Words.load(x, RECEIVE, w(Words.RECEIVE, 1), w(Words.EMIT, 0), w(Words.JUMP, RECEIVE));
        Words.load(x, RECEIVE_ON_ONE, Words.push(5), w(Words.RECEIVE, 1), Words.push(6));
        Words.load(x, RECEIVE_ON_TWO, Words.push(5), Words.push(6), w(Words.RECEIVE, 1));
        return x;
    }

    /** Begins a task that goes before all of less priority, and answers what its last step answered. */
    private static int spawnAndStep(TaskKernel x, int place, int steps) {
        x.spawn(place, 6);
        return Probe.lastAnswer(x, steps);
    }

    private static void dueWaiters(String about, TaskKernel x, boolean sends, int... order) {
        for (int k = 0; k < order.length; k++) {
            due(about + ": waiter(1, " + sends + ", " + k + ")", order[k], x.waiter(1, sends, k));
        }
        due(about + ": waiter(1, " + sends + ", " + order.length + ")", -1, x.waiter(1, sends, order.length));
        due(about + ": waiter(1, " + !sends + ", 0)", -1, x.waiter(1, !sends, 0));
        due(about + ": waiter(0, " + sends + ", 0)", -1, x.waiter(0, sends, 0));
    }

    private static void firstReceiverGetsIt() {
        CHECK.sentence("if tasks are receiving there, the first one of them gets a on its stack");
        TaskKernel x = kernel(1);
        for (int t = 0; t < 7; t++) {
            due("op 22", 16 * t + 4, spawnAndStep(x, RECEIVE, 1));
        }
        x.kill(0);
        due("op 22", 4, spawnAndStep(x, RECEIVE, 1));
        int[] order = {1, 2, 3, 4, 5, 6, 0};
        x.spawn(SEND_7, 7);
        for (int i = 0; i < order.length; i++) {
            due("op 21", 16 * 7, Probe.lastAnswer(x, 2));
            due("the number", 7, x.stack(order[i], 0));
            due("it gets one", 1, x.task(order[i], 2));
            due("the queue stays empty", 0, x.queue(1));
            for (int later = i + 1; later < order.length; later++) {
                due("the others wait still", 4, x.state(order[later]));
            }
            x.step();
        }
        due("op 21 when none is receiving any more", 16 * 7, Probe.lastAnswer(x, 2));
        due("the queue has it", 1, x.queue(1));
    }

    private static void receiverWithRoomForOne() {
        CHECK.sentence("the first one of them gets a on its stack (which is full then)");
        TaskKernel x = kernel(1);
        due("op 22 with room for one", 4, spawnAndStep(x, RECEIVE_ON_ONE, 2));
        due("its height as it waits", 1, x.task(0, 2));
        spawnAndStep(x, SEND_7, 2);
        due("its height", 2, x.task(0, 2));
        due("the number", 7, x.stack(0, 0));
        due("what was there", 5, x.stack(0, 1));
        x.kill(1);
        due("there is no room for more", 9, x.step());
    }

    private static void receiverBecomesReady() {
        CHECK.sentence("and becomes ready");
        TaskKernel x = kernel(1);
        spawnAndStep(x, RECEIVE, 1);
        due("it waits at queue 1", 1, x.task(0, 5));
        spawnAndStep(x, SEND_7, 2);
        due("it is ready", 1, x.state(0));
        due("it waits at none", -1, x.task(0, 5));
        due("the sender, which came earlier, is next", 1, x.next());
        x.kill(1);
        due("it goes on behind op 22", RECEIVE + 1, x.task(0, 0));
        due("op 15", 0, x.step());
        due("out(0)", 7, x.out(0));
    }

    private static void numberIsTheLastInTheQueue() {
        CHECK.sentence("Else, if the queue holds fewer than C numbers, a is the last one there.");
        for (int room = 1; room <= 6; room++) {
            TaskKernel x = kernel(room);
            for (int t = 0; t < room; t++) {
                due("op 21 with " + t + " of " + room, 16 * t, spawnAndStep(x, SEND_SELF, 2));
                due("queue(1)", t + 1, x.queue(1));
                due("the last one", t, x.queued(1, t));
                due("the first one", 0, x.queued(1, 0));
                due("none behind it", NONE, x.queued(1, t + 1));
                due("its stack", 0, x.task(t, 2));
                x.kill(t);
                x.spawn(60, 0);
            }
            due("queue(0)", 0, x.queue(0));
            dueWaiters("none waits", x, true);
        }
    }

    private static void senderWaitsWhenTheQueueIsFull() {
        CHECK.sentence("Else the task is sending");
        for (int room = 1; room <= 6; room++) {
            TaskKernel x = kernel(room);
            x.spawn(SEND_7, 6);
            x.run(3 * room);
            due("the queue is full", room, x.queue(1));
            due("op 21 with " + room + " of " + room, 3, Probe.lastAnswer(x, 2));
            due("state(0)", 3, x.state(0));
            due("task(0, 5)", 1, x.task(0, 5));
            due("task(0, 4)", 0, x.task(0, 4));
            due("a is taken", 0, x.task(0, 2));
            due("the queue holds no more", room, x.queue(1));
            due("next()", -1, x.next());
        }
    }

    private static void senderIsTheLastOneThatWaits() {
        CHECK.sentence("Else the task is sending, as the last one that is.");
        TaskKernel x = kernel(1);
        spawnAndStep(x, SEND_7, 3);
        x.kill(0);
        for (int t = 0; t < 8; t++) {
            due("op 21", 16 * t + 3, spawnAndStep(x, SEND_SELF, 2));
        }
        dueWaiters("all wait", x, true, 0, 1, 2, 3, 4, 5, 6, 7);
        x.kill(3);
        x.kill(0);
        dueWaiters("two are gone", x, true, 1, 2, 4, 5, 6, 7);
        due("op 21", 3, spawnAndStep(x, SEND_SELF, 2));
        dueWaiters("one is the last", x, true, 1, 2, 4, 5, 6, 7, 0);
        due("op 21", 16 * 3 + 3, spawnAndStep(x, SEND_SELF, 2));
        dueWaiters("another is the last", x, true, 1, 2, 4, 5, 6, 7, 0, 3);
    }

    private static void firstNumberIsPutOnTheStack() {
        CHECK.sentence("RECEIVING: if the queue holds numbers, the first one is put on the stack");
        TaskKernel x = kernel(3);
        for (int t = 0; t < 3; t++) {
            spawnAndStep(x, SEND_SELF, 3);
            x.kill(t);
            x.spawn(60, 0);
        }
        for (int t = 0; t < 3; t++) {
            due("op 22 with " + (3 - t), 16 * 3, spawnAndStep(x, RECEIVE_ON_ONE, 2));
            due("the first one", t, x.stack(3, 0));
            due("the stack is full", 2, x.task(3, 2));
            due("it has left the queue", 2 - t, x.queue(1));
            due("the first one now", t == 2 ? NONE : t + 1, x.queued(1, 0));
            due("it stays ready", 1, x.state(3));
            x.kill(3);
        }
        due("op 22 with none", 16 * 3 + 4, spawnAndStep(x, RECEIVE_ON_ONE, 2));
    }

    private static void queueGoesRoundAndRound() {
        CHECK.sentence("a is the last one there .. the first one is put on the stack (round and round)");
        for (int room = 1; room <= 6; room++) {
            TaskKernel x = new TaskKernel(1, 2, 1, room);
            Words.load(x, 0, Words.push(0), w(Words.DUP, 0), w(Words.SEND, 0), Words.push(1), w(Words.ADD, 0), w(Words.DUP, 0),
                w(Words.SEND, 0), w(Words.RECEIVE, 0), w(Words.EMIT, 0), Words.push(1), w(Words.ADD, 0), w(Words.JUMP, 5));
            x.spawn(0, 0);
            x.run(5);
            if (room == 1) {
                due("room for one alone", 3, Probe.lastAnswer(x, 2));
                continue;
            }
            for (int sent = 1; sent <= 20; sent++) {
                due("op 21", 0, Probe.lastAnswer(x, 2));
                due("two in " + room, 2, x.queue(0));
                due("the first one", sent - 1, x.queued(0, 0));
                due("the last one", sent, x.queued(0, 1));
                due("none behind it", NONE, x.queued(0, 2));
                x.run(5);
                due("the first one came out", sent - 1, x.out(0));
                due("one is left", sent, x.queued(0, 0));
                due("none behind it", NONE, x.queued(0, 1));
            }
        }
    }

    private static void firstSendersNumberIsTheLastInTheQueue() {
        CHECK.sentence("then, if tasks are sending there, the number of the first one of them is the last in the queue");
        for (int room = 1; room <= 6; room++) {
            TaskKernel x = kernel(room);
            x.spawn(SEND_7, 6);
            x.run(3 * room);
            x.kill(0);
            x.spawn(60, 0);
            for (int t = 1; t <= 6; t++) {
                due("op 21", 16 * t + 3, spawnAndStep(x, SEND_SELF, 2));
            }
            x.kill(1);
            due("op 22", 16, spawnAndStep(x, RECEIVE, 1));
            due("the first one of the queue", 7, x.stack(1, 0));
            due("the queue is full again", room, x.queue(1));
            due("the last one is the first sender's", 2, x.queued(1, room - 1));
            dueWaiters("the others wait", x, true, 3, 4, 5, 6);
            due("what it received", 1, x.task(1, 2));
        }
    }

    private static void firstSenderBecomesReady() {
        CHECK.sentence("and that task becomes ready");
        TaskKernel x = kernel(1);
        x.spawn(SEND_7, 5);
        x.run(5);
        x.spawn(60, 5);
        due("op 22", 16 * 2, spawnAndStep(x, RECEIVE, 1));
        due("state(0)", 1, x.state(0));
        due("task(0, 5)", -1, x.task(0, 5));
        due("it goes on behind op 21", SEND_7 + 2, x.task(0, 0));
        x.kill(2);
        due("its arrival is new", 1, x.next());
        x.kill(1);
        due("op 11", 0, x.step());
        due("its number is sent once: op 21", 3, Probe.lastAnswer(x, 2));
    }

    private static void receiverWaitsWhenTheQueueIsEmpty() {
        CHECK.sentence("Else the task is receiving");
        TaskKernel x = kernel(6);
        due("op 22", 4, spawnAndStep(x, RECEIVE, 1));
        due("state(0)", 4, x.state(0));
        due("task(0, 5)", 1, x.task(0, 5));
        due("task(0, 4)", 0, x.task(0, 4));
        due("its stack", 0, x.task(0, 2));
        due("its place", RECEIVE + 1, x.task(0, 0));
        due("next()", -1, x.next());
        due("tick()", 0, x.tick());
        due("it waits still", 4, x.state(0));
    }

    private static void receiverIsTheLastOneThatWaits() {
        CHECK.sentence("Else the task is receiving, as the last one that is");
        TaskKernel x = kernel(1);
        for (int t = 0; t < 8; t++) {
            due("op 22", 16 * t + 4, spawnAndStep(x, RECEIVE, 1));
        }
        dueWaiters("all wait", x, false, 0, 1, 2, 3, 4, 5, 6, 7);
        x.kill(5);
        x.kill(0);
        dueWaiters("two are gone", x, false, 1, 2, 3, 4, 6, 7);
        due("op 22", 4, spawnAndStep(x, RECEIVE, 1));
        due("op 22", 16 * 5 + 4, spawnAndStep(x, RECEIVE, 1));
        dueWaiters("both are the last", x, false, 1, 2, 3, 4, 6, 7, 0, 5);
    }

    private static void receiverMustHaveRoom() {
        CHECK.sentence("(its stack must have room for a number, all the same)");
        TaskKernel x = kernel(1);
        due("op 22 on a full stack", 9, spawnAndStep(x, RECEIVE_ON_TWO, 3));
        due("state(0)", 0, x.state(0));
        due("why(0)", 3, x.why(0));
        dueWaiters("it does not wait", x, false);
        due("op 22 with room for one", 4, spawnAndStep(x, RECEIVE_ON_ONE, 2));
        for (int room = 1; room <= 16; room++) {
            int[] words = Words.join(Words.times(room, Words.push(1)), new int[] {w(Words.RECEIVE, 0)});
            due("W = " + room + ": full", 9, Probe.lastAnswer(Words.begunWith(room, words), room + 1));
            if (room < 16) {
                due("W = " + (room + 1) + ": room for one", 4, Probe.lastAnswer(Words.begunWith(room + 1, words), room + 1));
            }
        }
    }

    private static void putOnAFullStackIsTheFirstThingDone() {
        CHECK.sentence("the first one is put on the stack; then, if tasks are sending there");
        for (int room = 1; room <= 6; room++) {
            TaskKernel x = kernel(room);
            x.spawn(SEND_7, 6);
            x.run(3 * room);
            x.kill(0);
            spawnAndStep(x, SEND_SELF, 2);
            spawnAndStep(x, SEND_SELF, 2);
            due("op 22 on a full stack", 16 * 2 + 9, spawnAndStep(x, RECEIVE_ON_TWO, 3));
            due("why(2)", 3, x.why(2));
            due("the queue is as it was", room, x.queue(1));
            due("its last one", 7, x.queued(1, room - 1));
            dueWaiters("the senders wait still", x, true, 0, 1);
            due("op 22 with room", 16 * 2, spawnAndStep(x, RECEIVE, 1));
            due("the first number", 7, x.stack(2, 0));
            due("the first sender's number", 0, x.queued(1, room - 1));
            dueWaiters("the second one waits still", x, true, 1);
        }
    }

    private static void endsOfTheNumbers() {
        CHECK.sentence("SENDING a to a queue (a of either end of the ints)");
        int[] numbers = {Integer.MIN_VALUE, -1, 0, Integer.MAX_VALUE};
        for (int number : numbers) {
            int[] put = Words.number(number);
            int[] words = Words.join(put, new int[] {w(Words.SEND, 0), w(Words.RECEIVE, 0)});
            TaskKernel x = Words.begun(words);
            due("op 21", 0, Probe.lastAnswer(x, put.length + 1));
            due("queued(0, 0)", number, x.queued(0, 0));
            due("queue(0)", 1, x.queue(0));
            due("op 22 of what it sent itself", 0, x.step());
            due("stack(0, 0)", number, x.stack(0, 0));
            due("queue(0)", 0, x.queue(0));
        }
    }
}
