/** SENDING and RECEIVING: what goes through the queues, who waits there and in which order they go on. */
public final class QueuesTest {
    private static final int SENDER = 0;
    private static final int RECEIVER = 20;
    private static final Check CHECK = new Check("QueuesTest");

    public static void main(String[] args) {
        sendsToTheFirstReceiver();
        sendsIntoTheQueueUntilItIsFull();
        receivesInOrder();
        wokenTasksArriveAnew();
        killedSenderTakesItsNumberAlong();
        killedReceiverGetsNothing();
        taskThatBeginsAgainWaitsNowhere();
        queuesAreApart();
        traps();
        fullStackLeavesTheQueueAlone();
        CHECK.finish();
    }

    private static void due(String call, long want, long got) {
        CHECK.due(call, want, got);
    }

    private static int w(int op, int x) {
        return Words.word(op, x);
    }

    /**
     * At SENDER: sends 10 + its number to queue 0, again and again. At RECEIVER: receives from queue 0
     * and emits that, again and again.
     */
    private static TaskKernel kernel(int tasks, int room) {
        TaskKernel x = new TaskKernel(tasks, 3, 2, room);
        Words.load(x, SENDER, w(Words.SELF, 0), Words.push(10), w(Words.ADD, 0), w(Words.SEND, 0), w(Words.JUMP, SENDER));
        Words.load(x, RECEIVER, w(Words.RECEIVE, 0), w(Words.EMIT, 0), w(Words.JUMP, RECEIVER));
        return x;
    }

    private static void sendsToTheFirstReceiver() {
        TaskKernel x = kernel(4, 2);
        x.spawn(RECEIVER, 1);
        x.spawn(RECEIVER, 2);
        x.run(64);
        due("first receiver", 1, x.waiter(0, false, 0));
        due("second receiver", 0, x.waiter(0, false, 1));
        due("its queue", 0, x.task(0, 5));
        x.spawn(SENDER, 3);
        x.run(3);
        due("the sender stays ready", 32, x.step());
        due("the number does not stay in the queue", 0, x.queue(0));
        due("the first one got it", 12, x.stack(1, 0));
        due("the first one is ready", 1, x.state(1));
        due("it waits no more", -1, x.task(1, 5));
        due("the other one waits", 0, x.waiter(0, false, 0));
        due("the other one's stack", 0, x.task(0, 2));
        due("the sender's stack", 0, x.task(2, 2));
        due("the sender is next still", 2, x.next());
    }

    private static void sendsIntoTheQueueUntilItIsFull() {
        TaskKernel x = kernel(4, 2);
        x.spawn(SENDER, 1);
        x.run(5);
        due("one number", 1, x.queue(0));
        x.run(5);
        due("two numbers", 2, x.queue(0));
        due("ready", 1, x.state(0));
        x.run(3);
        due("the third must wait", 3, x.step());
        due("two numbers still", 2, x.queue(0));
        due("it waits", 0, x.waiter(0, true, 0));
        due("at queue 0", 0, x.task(0, 5));
        due("its number is taken", 0, x.task(0, 2));
        due("its place is behind the word", 4, x.task(0, 0));
        x.spawn(SENDER, 0);
        x.run(64);
        due("the next one waits behind it", 1, x.waiter(0, true, 1));
    }

    private static void receivesInOrder() {
        TaskKernel x = kernel(4, 1);
        x.spawn(SENDER, 1);
        x.spawn(SENDER, 2);
        x.spawn(SENDER, 3);
        x.run(64);
        due("queued", 12, x.queued(0, 0));
        due("first sender", 2, x.waiter(0, true, 0));
        due("second sender", 1, x.waiter(0, true, 1));
        due("third sender", 0, x.waiter(0, true, 2));
        x.spawn(RECEIVER, 7);
        due("received", 48, x.step());
        due("the first one in the queue", 12, x.stack(3, 0));
        due("the first sender's number is in the queue", 12, x.queued(0, 0));
        due("the queue is full again", 1, x.queue(0));
        due("the first sender is ready", 1, x.state(2));
        due("it waits no more", -1, x.task(2, 5));
        due("the second one is first", 1, x.waiter(0, true, 0));
        x.run(11);
        due("all received", 4, x.emitted());
        due("first", 12, x.out(3));
        due("second", 12, x.out(2));
        due("third", 11, x.out(1));
        due("fourth", 10, x.out(0));
        x.step();
        due("then it waits", 4, x.state(3));
        due("the queue is empty", 0, x.queue(0));
    }

    private static void wokenTasksArriveAnew() {
        TaskKernel x = new TaskKernel(4, 3, 1, 1);
        Words.load(x, 0, w(Words.RECEIVE, 0));
        Words.load(x, 10, Words.push(1), w(Words.SEND, 0), Words.push(2), w(Words.SEND, 0), w(Words.YIELD, 0));
        x.spawn(0, 3);
        x.spawn(0, 3);
        x.run(2);
        x.spawn(10, 3);
        x.run(2);
        due("the sender came before the one it woke", 2, x.next());
        x.spawn(5, 3);
        x.run(3);
        due("woken first", 0, x.next());
        x.kill(0);
        due("then the one that began", 3, x.next());
        x.kill(3);
        due("then the one that was woken later", 1, x.next());
        x.kill(1);
        due("then the one that yielded", 2, x.next());
    }

    private static void killedSenderTakesItsNumberAlong() {
        TaskKernel x = kernel(4, 1);
        x.spawn(SENDER, 3);
        x.spawn(SENDER, 2);
        x.spawn(SENDER, 1);
        x.run(64);
        CHECK.due("kill(1)", true, x.kill(1));
        due("behind the first", 2, x.waiter(0, true, 1));
        due("no third", -1, x.waiter(0, true, 2));
        CHECK.due("kill(0)", true, x.kill(0));
        due("the queue keeps what it holds", 10, x.queued(0, 0));
        x.spawn(RECEIVER, 7);
        x.run(2);
        due("received", 10, x.out(0));
        due("the number of the sender that is left", 12, x.queued(0, 0));
        due("it is ready", 1, x.state(2));
        x.kill(2);
        x.run(64);
        due("received", 12, x.out(0));
        due("nothing else came", 2, x.emitted());
    }

    private static void killedReceiverGetsNothing() {
        TaskKernel x = kernel(3, 1);
        x.spawn(RECEIVER, 5);
        x.spawn(RECEIVER, 4);
        x.run(64);
        x.kill(0);
        due("the other one is first", 1, x.waiter(0, false, 0));
        x.spawn(SENDER, 7);
        x.run(4);
        due("the other one gets it", 10, x.stack(1, 0));
        x.kill(1);
        x.run(5);
        due("then nobody receives", 1, x.queue(0));
    }

    private static void taskThatBeginsAgainWaitsNowhere() {
        TaskKernel x = kernel(2, 1);
        x.spawn(RECEIVER, 5);
        x.run(64);
        x.kill(0);
        due("it begins again", 0, x.spawn(40, 0));
        due("it waits at none", -1, x.task(0, 5));
        due("no waiter", -1, x.waiter(0, false, 0));
        x.spawn(SENDER, 7);
        x.run(4);
        due("it gets nothing", 0, x.task(0, 2));
        due("the number is in the queue", 11, x.queued(0, 0));
    }

    private static void queuesAreApart() {
        TaskKernel x = new TaskKernel(3, 3, 2, 1);
        Words.load(x, 0, w(Words.RECEIVE, 1));
        Words.load(x, 10, Words.push(4), w(Words.SEND, 0), Words.push(5), w(Words.SEND, 1), Words.push(6), w(Words.SEND, 0));
        x.spawn(0, 7);
        x.step();
        x.spawn(10, 1);
        x.run(2);
        due("queue 0 has no receiver", 4, x.queued(0, 0));
        due("the receiver of queue 1 waits", 4, x.state(0));
        x.run(2);
        due("the receiver of queue 1 has it", 5, x.stack(0, 0));
        due("queue 1 is empty", 0, x.queue(1));
        x.kill(0);
        x.run(2);
        due("it sends to queue 0", 0, x.task(1, 5));
        x.spawn(0, 2);
        x.step();
        due("a receiver of queue 1 takes nothing from queue 0", 4, x.state(0));
        due("the sender waits", 3, x.state(1));
    }

    private static void traps() {
        int[] wrong = {2, -1, 1000, -64};
        for (int q : wrong) {
            TaskKernel x = new TaskKernel(1, 1, 2, 1);
            Words.load(x, 0, w(Words.SEND, q), w(Words.RECEIVE, q), Words.push(1), w(Words.RECEIVE, q), Words.push(1),
                w(Words.SEND, q));
            x.spawn(0, 0);
            due("op 21 looks at queue " + q + " before it takes", 14, x.step());
            due("why", 8, x.why(0));
            x.spawn(1, 0);
            due("op 22 from queue " + q, 14, x.step());
            x.spawn(2, 0);
            x.step();
            due("op 22 looks at queue " + q + " before the stack", 14, x.step());
            x.spawn(4, 0);
            x.step();
            due("op 21 to queue " + q, 14, x.step());
        }
    }

    private static void fullStackLeavesTheQueueAlone() {
        TaskKernel x = new TaskKernel(3, 1, 1, 1);
        Words.load(x, 0, Words.push(1), w(Words.RECEIVE, 0));
        Words.load(x, 10, Words.push(6), w(Words.SEND, 0), w(Words.JUMP, 10));
        x.spawn(0, 7);
        x.step();
        due("no room to wait for a number", 9, x.step());
        due("no waiter", -1, x.waiter(0, false, 0));
        x.spawn(10, 0);
        x.run(64);
        due("the sender waits", 3, x.state(0));
        x.spawn(0, 7);
        x.step();
        due("no room for the number", 16 + 9, x.step());
        due("the number stays in the queue", 1, x.queue(0));
        due("the sender waits still", 3, x.state(0));
        x.spawn(1, 7);
        due("a stack with room for one", 16, x.step());
        due("the number", 6, x.stack(1, 0));
        due("the sender is ready", 1, x.state(0));
    }
}
