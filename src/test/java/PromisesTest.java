/** The promises 1 to 19, one method each: ordinary inputs, the edges that the document names, wrong inputs. */
public final class PromisesTest {
    private static final int NONE = TaskKernel.NONE;
    private static final int MIN = Integer.MIN_VALUE;
    private static final int MAX = Integer.MAX_VALUE;
    private static final Check CHECK = new Check("PromisesTest");

    public static void main(String[] args) {
        newObject();
        limitsOfANewObject();
        poke();
        spawn();
        step();
        run();
        tick();
        kill();
        state();
        task();
        stack();
        next();
        queue();
        queued();
        waiter();
        memory();
        emitted();
        out();
        why();
        clock();
        CHECK.finish();
    }

    private static void due(String call, long want, long got) {
        CHECK.due(call, want, got);
    }

    private static void newObject() {
        TaskKernel x = new TaskKernel(3, 4, 2, 5);
        due("1: state(2)", 0, x.state(2));
        due("1: why(2)", 0, x.why(2));
        due("1: next()", -1, x.next());
        due("1: step()", -1, x.step());
        due("1: queue(1)", 0, x.queue(1));
        due("1: waiter(1, true, 0)", -1, x.waiter(1, true, 0));
        due("1: waiter(1, false, 0)", -1, x.waiter(1, false, 0));
        due("1: memory(0)", 0, x.memory(0));
        due("1: memory(15)", 0, x.memory(15));
        due("1: emitted()", 0, x.emitted());
        due("1: clock()", 0, x.clock());
        due("1: NONE", -2147483648L, NONE);
        for (int place = 0; place < 64; place++) {
            int t = x.spawn(place, 7);
            due("1: a word of new code", 16 * t + 1, x.step());
        }
    }

    private static void limitsOfANewObject() {
        int[][] asked = {{1, 1, 0, 1}, {0, 0, -1, 0}, {MIN, MIN, MIN, MIN}, {8, 16, 4, 6}, {9, 17, 5, 7}, {MAX, MAX, MAX, MAX},
            {5, 9, 3, 4}};
        int[][] taken = {{1, 1, 0, 1}, {1, 1, 0, 1}, {1, 1, 0, 1}, {8, 16, 4, 6}, {8, 16, 4, 6}, {8, 16, 4, 6}, {5, 9, 3, 4}};
        for (int i = 0; i < asked.length; i++) {
            int[] a = asked[i];
            String made = "1: with " + a[0] + ", " + a[1] + ", " + a[2] + ", " + a[3] + ": ";
            due(made + "tasks", taken[i][0], tasksOf(new TaskKernel(a[0], a[1], a[2], a[3])));
            due(made + "words", taken[i][1], wordsOf(new TaskKernel(a[0], a[1], a[2], a[3])));
            due(made + "queues", taken[i][2], queuesOf(new TaskKernel(a[0], a[1], a[2], a[3])));
            if (taken[i][2] > 0) {
                due(made + "room", taken[i][3], roomOf(new TaskKernel(a[0], a[1], a[2], a[3])));
            }
        }
        due("1: least room", 1, roomOf(new TaskKernel(1, 1, 1, 0)));
        due("1: least room", 1, roomOf(new TaskKernel(1, 1, 1, MIN)));
    }

    private static int tasksOf(TaskKernel x) {
        int begun = 0;
        while (begun < 20 && x.spawn(0, 0) >= 0) {
            begun++;
        }
        due("1: state of the last", 1, x.state(begun - 1));
        due("1: state behind the last", -1, x.state(begun));
        return begun;
    }

    private static int wordsOf(TaskKernel x) {
        Words.load(x, 0, Words.push(1), Words.word(Words.JUMP, 0));
        x.spawn(0, 0);
        int most = 0;
        for (int i = 0; i < 60; i++) {
            most = Math.max(most, x.task(0, 2));
            x.step();
        }
        return most;
    }

    private static int queuesOf(TaskKernel x) {
        int queues = 0;
        while (queues < 20 && x.queue(queues) == 0) {
            queues++;
        }
        return queues;
    }

    private static int roomOf(TaskKernel x) {
        Words.load(x, 0, Words.push(1), Words.word(Words.SEND, 0), Words.word(Words.JUMP, 0));
        x.spawn(0, 0);
        x.run(64);
        due("1: state of the sender", 3, x.state(0));
        return x.queue(0);
    }

    private static void poke() {
        TaskKernel x = new TaskKernel(1, 4, 0, 1);
        CHECK.due("2: poke(0, push 5)", true, x.poke(0, Words.push(5)));
        CHECK.due("2: poke(0, push 6)", true, x.poke(0, Words.push(6)));
        CHECK.due("2: poke(63, push -7)", true, x.poke(63, Words.push(-7)));
        CHECK.due("2: poke(64, 0)", false, x.poke(64, 0));
        CHECK.due("2: poke(-1, 0)", false, x.poke(-1, 0));
        CHECK.due("2: poke(MIN, 0)", false, x.poke(MIN, 0));
        CHECK.due("2: poke(MAX, 0)", false, x.poke(MAX, 0));
        due("2: spawn(64, 0)", -2, x.spawn(64, 0));
        CHECK.due("2: poke after a spawn that began nothing", true, x.poke(1, Words.push(8)));
        due("2: spawn(0, 0)", 0, x.spawn(0, 0));
        CHECK.due("2: poke while one is live", false, x.poke(0, 0));
        due("2: run(2)", 2, x.run(2));
        due("2: stack(0, 0)", 8, x.stack(0, 0));
        due("2: stack(0, 1)", 6, x.stack(0, 1));
        x.kill(0);
        CHECK.due("2: poke when none is live", false, x.poke(0, 0));
        x.spawn(63, 0);
        x.step();
        due("2: the last word", -7, x.stack(0, 0));
        x.kill(0);
        x.spawn(0, 0);
        x.step();
        due("2: the word stayed", 6, x.stack(0, 0));
    }

    private static void spawn() {
        TaskKernel x = new TaskKernel(3, 4, 0, 1);
        Words.load(x, 0, Words.push(1), Words.push(2), Words.word(Words.CALL, 4));
        due("3: spawn(-1, 0)", -2, x.spawn(-1, 0));
        due("3: spawn(64, 0)", -2, x.spawn(64, 0));
        due("3: spawn(0, -1)", -2, x.spawn(0, -1));
        due("3: spawn(0, 8)", -2, x.spawn(0, 8));
        due("3: spawn(MIN, MAX)", -2, x.spawn(MIN, MAX));
        due("3: state(0)", 0, x.state(0));
        due("3: spawn(0, 0)", 0, x.spawn(0, 0));
        due("3: spawn(63, 7)", 1, x.spawn(63, 7));
        due("3: spawn(5, 4)", 2, x.spawn(5, 4));
        due("3: place of 1", 63, x.task(1, 0));
        due("3: priority of 1", 7, x.task(1, 1));
        due("3: place of 2", 5, x.task(2, 0));
        due("3: spawn when none is free", -1, x.spawn(0, 0));
        due("3: spawn(0, 9) when none is free", -2, x.spawn(0, 9));
        due("3: spawn(64, 0) when none is free", -2, x.spawn(64, 0));
        x.kill(2);
        x.kill(1);
        due("3: run(3)", 3, x.run(3));
        due("3: frames", 1, x.task(0, 3));
        x.kill(0);
        due("3: the least free one", 0, x.spawn(9, 2));
        due("3: its place", 9, x.task(0, 0));
        due("3: its priority", 2, x.task(0, 1));
        due("3: its stack is empty", 0, x.task(0, 2));
        due("3: it has no frames", 0, x.task(0, 3));
        due("3: it does not sleep", 0, x.task(0, 4));
        due("3: it waits nowhere", -1, x.task(0, 5));
        due("3: it is ready", 1, x.state(0));
    }

    private static void step() {
        TaskKernel x = new TaskKernel(8, 4, 1, 1);
        Words.load(x, 0, Words.push(9), Words.word(Words.SLEEP, 0));
        Words.load(x, 4, Words.push(1), Words.word(Words.SEND, 0), Words.push(2), Words.word(Words.SEND, 0));
        Words.load(x, 10, Words.word(Words.RECEIVE, 0));
        Words.load(x, 20, Words.word(Words.SELF, 0), Words.word(Words.KILL, 0));
        Words.load(x, 30, 31);
        due("4: step() when none is ready", -1, x.step());
        x.spawn(0, 0);
        due("4: ready", 0, x.step());
        due("4: sleeps", 2, x.step());
        due("4: step() when all sleep", -1, x.step());
        x.spawn(4, 1);
        x.run(3);
        due("4: sends", 16 + 3, x.step());
        x.spawn(10, 2);
        due("4: receives a number", 32, x.step());
        x.spawn(10, 3);
        due("4: receives the sender's number", 48, x.step());
        x.spawn(10, 4);
        due("4: receives and waits", 64 + 4, x.step());
        x.spawn(20, 7);
        due("4: ready", 80, x.step());
        due("4: ends by 25", 80 + 1, x.step());
        x.spawn(21, 7);
        due("4: trap 1", 80 + 9, x.step());
        x.spawn(30, 7);
        due("4: trap 4", 80 + 12, x.step());
        x.spawn(40, 7);
        due("4: ends by 0", 80 + 1, x.step());
    }

    private static void run() {
        TaskKernel x = new TaskKernel(3, 4, 0, 1);
        Words.load(x, 0, Words.word(Words.JUMP, 0));
        Words.load(x, 10, Words.push(1), Words.word(Words.KILL, 0), Words.word(Words.DROP, 0), Words.word(Words.ADD, 0));
        Words.load(x, 20, Words.push(3), Words.word(Words.SLEEP, 0));
        due("5: run(1) when none is ready", 0, x.run(1));
        due("5: run(0)", -1, x.run(0));
        x.spawn(20, 7);
        due("5: run(65)", -1, x.run(65));
        due("5: run(-1)", -1, x.run(-1));
        due("5: run(MIN)", -1, x.run(MIN));
        due("5: run(MAX)", -1, x.run(MAX));
        due("5: no step was made", 20, x.task(0, 0));
        due("5: until none can be made", 2, x.run(64));
        due("5: run(64) when all sleep", 0, x.run(64));
        x.spawn(0, 1);
        due("5: run(1)", 1, x.run(1));
        due("5: run(64)", 64, x.run(64));
        due("5: run(63)", 63, x.run(63));
        x.spawn(10, 2);
        due("5: another one's end does not stop it, a trap does", 4, x.run(64));
        due("5: state(1)", 0, x.state(1));
        due("5: why(2)", 3, x.why(2));
        x.spawn(0, 1);
        x.spawn(40, 6);
        due("5: op 0 stops it", 1, x.run(64));
        due("5: the other one goes on", 64, x.run(64));
    }

    private static void tick() {
        TaskKernel x = new TaskKernel(5, 4, 0, 1);
        Words.load(x, 0, Words.push(3), Words.word(Words.SLEEP, 0));
        Words.load(x, 10, Words.push(2), Words.word(Words.SLEEP, 0));
        Words.load(x, 20, Words.word(Words.JUMP, 20));
        x.spawn(20, 0);
        x.spawn(0, 1);
        x.spawn(0, 3);
        x.spawn(0, 2);
        x.run(6);
        due("6: tick()", 0, x.tick());
        x.spawn(10, 1);
        x.run(2);
        due("6: state(4)", 2, x.state(4));
        due("6: the wake of an earlier sleeper", 3, x.task(1, 4));
        due("6: the wake of a later sleeper", 3, x.task(4, 4));
        due("6: tick()", 0, x.tick());
        due("6: clock()", 2, x.clock());
        x.kill(3);
        due("6: three of them wake", 3, x.tick());
        due("6: clock()", 3, x.clock());
        due("6: state(3)", 0, x.state(3));
        due("6: wake of one that is ready", 0, x.task(1, 4));
        due("6: next()", 2, x.next());
        x.kill(2);
        due("6: of the same priority the earlier one", 1, x.next());
        x.kill(1);
        due("6: next()", 4, x.next());
        due("6: tick() when none sleeps", 0, x.tick());
        tickKeepsTheOrderOfGoingToSleep();
    }

    private static void tickKeepsTheOrderOfGoingToSleep() {
        TaskKernel x = new TaskKernel(3, 4, 0, 1);
        Words.load(x, 0, Words.push(2), Words.word(Words.SLEEP, 0));
        Words.load(x, 10, Words.push(1), Words.word(Words.SLEEP, 0));
        Words.load(x, 20, Words.word(Words.PRIORITY, 4), Words.word(Words.JUMP, 10));
        x.spawn(20, 0);
        x.spawn(10, 0);
        x.spawn(0, 4);
        x.run(2);
        due("6: task 2 sleeps first", 2, x.state(2));
        x.tick();
        x.run(4);
        due("6: task 0 sleeps then", 2, x.task(0, 4));
        x.run(2);
        due("6: task 1 sleeps last", 2, x.task(1, 4));
        due("6: all wake", 3, x.tick());
        due("6: of the same priority the one that slept first, not the least number", 2, x.next());
        x.kill(2);
        due("6: then the other one of that priority", 0, x.next());
    }

    private static void kill() {
        TaskKernel x = new TaskKernel(4, 4, 1, 1);
        Words.load(x, 0, Words.push(7), Words.word(Words.SEND, 0), Words.word(Words.JUMP, 0));
        Words.load(x, 10, Words.push(5), Words.word(Words.SLEEP, 0));
        CHECK.due("7: kill(0) when free", false, x.kill(0));
        CHECK.due("7: kill(-1)", false, x.kill(-1));
        CHECK.due("7: kill(4)", false, x.kill(4));
        CHECK.due("7: kill(MIN)", false, x.kill(MIN));
        CHECK.due("7: kill(MAX)", false, x.kill(MAX));
        due("7: why(0)", 0, x.why(0));
        x.spawn(0, 0);
        x.spawn(10, 0);
        x.run(64);
        due("7: state(0)", 3, x.state(0));
        due("7: state(1)", 2, x.state(1));
        CHECK.due("7: kill(0) while it sends", true, x.kill(0));
        due("7: what it had sent stays", 1, x.queue(0));
        due("7: it waits no more", -1, x.waiter(0, true, 0));
        due("7: state(0)", 0, x.state(0));
        due("7: why(0)", 2, x.why(0));
        CHECK.due("7: kill(0) again", false, x.kill(0));
        CHECK.due("7: kill(1) while it sleeps", true, x.kill(1));
        for (int i = 0; i < 6; i++) {
            due("7: nobody wakes", 0, x.tick());
        }
        x.spawn(0, 0);
        CHECK.due("7: kill(0) when ready", true, x.kill(0));
        due("7: next()", -1, x.next());
    }

    private static void state() {
        TaskKernel x = new TaskKernel(5, 4, 2, 1);
        Words.load(x, 0, Words.push(7), Words.word(Words.SEND, 0), Words.word(Words.JUMP, 0));
        Words.load(x, 10, Words.push(5), Words.word(Words.SLEEP, 0));
        Words.load(x, 20, Words.word(Words.RECEIVE, 1));
        Words.load(x, 30, Words.word(Words.JUMP, 30));
        x.spawn(0, 1);
        x.spawn(10, 1);
        x.spawn(20, 1);
        x.spawn(30, 0);
        x.run(64);
        due("8: sending", 3, x.state(0));
        due("8: sleeping", 2, x.state(1));
        due("8: receiving", 4, x.state(2));
        due("8: ready", 1, x.state(3));
        due("8: free", 0, x.state(4));
        due("8: state(5)", -1, x.state(5));
        due("8: state(-1)", -1, x.state(-1));
        due("8: state(MIN)", -1, x.state(MIN));
        due("8: state(MAX)", -1, x.state(MAX));
    }

    private static void task() {
        TaskKernel x = new TaskKernel(3, 4, 2, 1);
        Words.load(x, 0, Words.push(7), Words.push(8), Words.word(Words.CALL, 5));
        Words.load(x, 5, Words.push(1200), Words.word(Words.SLEEP, 0), Words.push(9), Words.word(Words.SEND, 1), Words.push(9),
            Words.word(Words.SEND, 1));
        due("9: task(0, 0) when free", NONE, x.task(0, 0));
        due("9: task(0, 4) when free", NONE, x.task(0, 4));
        x.tick();
        x.spawn(0, 6);
        x.run(4);
        due("9: 0 place", 6, x.task(0, 0));
        due("9: 1 priority", 6, x.task(0, 1));
        due("9: 2 numbers", 3, x.task(0, 2));
        due("9: 3 frames", 1, x.task(0, 3));
        due("9: 4 wake when ready", 0, x.task(0, 4));
        due("9: 5 queue when ready", -1, x.task(0, 5));
        x.step();
        due("9: 4 wake, at most 1000 later", 1001, x.task(0, 4));
        due("9: 5 queue when asleep", -1, x.task(0, 5));
        due("9: 6", NONE, x.task(0, 6));
        due("9: -1", NONE, x.task(0, -1));
        due("9: MIN", NONE, x.task(0, MIN));
        due("9: MAX", NONE, x.task(0, MAX));
        due("9: task(3, 0)", NONE, x.task(3, 0));
        due("9: task(-1, 0)", NONE, x.task(-1, 0));
        due("9: task(MIN, 0)", NONE, x.task(MIN, 0));
        x.spawn(7, 0);
        x.run(64);
        due("9: 5 queue when sending", 1, x.task(1, 5));
        due("9: 4 wake when sending", 0, x.task(1, 4));
        due("9: 2 the number is taken", 0, x.task(1, 2));
    }

    private static void stack() {
        TaskKernel x = Words.begun(Words.push(7), Words.push(-8), Words.push(9));
        due("10: stack(0, 0) when empty", NONE, x.stack(0, 0));
        x.run(3);
        due("10: top", 9, x.stack(0, 0));
        due("10: below", -8, x.stack(0, 1));
        due("10: lowest", 7, x.stack(0, 2));
        due("10: k = 3", NONE, x.stack(0, 3));
        due("10: k = -1", NONE, x.stack(0, -1));
        due("10: k = MIN", NONE, x.stack(0, MIN));
        due("10: k = MAX", NONE, x.stack(0, MAX));
        due("10: another task", NONE, x.stack(1, 0));
        due("10: task 4", NONE, x.stack(4, 0));
        due("10: task -1", NONE, x.stack(-1, 0));
        x.kill(0);
        due("10: not live", NONE, x.stack(0, 0));
    }

    private static void next() {
        TaskKernel x = new TaskKernel(4, 4, 0, 1);
        Words.load(x, 0, Words.word(Words.YIELD, 0), Words.word(Words.PRIORITY, 7), Words.word(Words.PRIORITY, -8));
        due("11: none", -1, x.next());
        x.spawn(0, 3);
        x.spawn(0, 3);
        due("11: least arrival", 0, x.next());
        x.spawn(0, 4);
        due("11: greatest priority", 2, x.next());
        due("11: asking changes nothing", 2, x.next());
        x.kill(2);
        due("11: step()", 0, x.step());
        due("11: it is ready anew", 1, x.next());
        due("11: step()", 16, x.step());
        due("11: and so is the other", 0, x.next());
        due("11: priority 7", 0, x.step());
        due("11: next()", 0, x.next());
        due("11: priority -8 & 7", 0, x.step());
        due("11: its priority", 0, x.task(0, 1));
        due("11: next()", 1, x.next());
        x.kill(1);
        due("11: next()", 0, x.next());
        x.spawn(0, 0);
        due("11: a less number that arrived later", 0, x.next());
        x.kill(0);
        x.spawn(0, 0);
        due("11: task 0 arrived after task 1", 1, x.next());
    }

    private static TaskKernel withThreeQueued() {
        TaskKernel x = new TaskKernel(2, 4, 2, 3);
        Words.load(x, 0, Words.push(5), Words.word(Words.SEND, 1), Words.push(6), Words.word(Words.SEND, 1), Words.push(-7),
            Words.word(Words.SEND, 1), Words.word(Words.RECEIVE, 1), Words.word(Words.RECEIVE, 1), Words.push(8),
            Words.word(Words.SEND, 1));
        x.spawn(0, 0);
        x.run(6);
        return x;
    }

    private static void queue() {
        TaskKernel x = withThreeQueued();
        due("12: queue(1)", 3, x.queue(1));
        due("12: queue(0)", 0, x.queue(0));
        due("12: queue(2)", -1, x.queue(2));
        due("12: queue(-1)", -1, x.queue(-1));
        due("12: queue(MIN)", -1, x.queue(MIN));
        due("12: queue(MAX)", -1, x.queue(MAX));
        x.run(2);
        due("12: after two were received", 1, x.queue(1));
        due("12: no queues", -1, new TaskKernel(1, 1, 0, 1).queue(0));
    }

    private static void queued() {
        TaskKernel x = withThreeQueued();
        due("13: queued(1, 0)", 5, x.queued(1, 0));
        due("13: queued(1, 1)", 6, x.queued(1, 1));
        due("13: queued(1, 2)", -7, x.queued(1, 2));
        due("13: queued(1, 3)", NONE, x.queued(1, 3));
        due("13: queued(1, -1)", NONE, x.queued(1, -1));
        due("13: queued(1, MIN)", NONE, x.queued(1, MIN));
        due("13: queued(1, MAX)", NONE, x.queued(1, MAX));
        due("13: queued(0, 0)", NONE, x.queued(0, 0));
        due("13: queued(2, 0)", NONE, x.queued(2, 0));
        due("13: queued(-1, 0)", NONE, x.queued(-1, 0));
        x.run(4);
        due("13: queued(1, 0) later", -7, x.queued(1, 0));
        due("13: queued(1, 1) later", 8, x.queued(1, 1));
        due("13: queued(1, 2) later", NONE, x.queued(1, 2));
    }

    private static void waiter() {
        TaskKernel x = new TaskKernel(6, 4, 3, 1);
        Words.load(x, 0, Words.push(1), Words.word(Words.SEND, 1), Words.word(Words.JUMP, 0));
        Words.load(x, 10, Words.word(Words.RECEIVE, 2));
        x.spawn(0, 1);
        x.spawn(0, 2);
        x.spawn(10, 1);
        x.spawn(0, 3);
        x.spawn(10, 2);
        x.run(64);
        int[] senders = {3, 1, 0, -1};
        int[] receivers = {4, 2, -1, -1};
        for (int k = 0; k < 4; k++) {
            due("14: waiter(1, true, " + k + ")", senders[k], x.waiter(1, true, k));
            due("14: waiter(2, false, " + k + ")", receivers[k], x.waiter(2, false, k));
            due("14: waiter(1, false, " + k + ")", -1, x.waiter(1, false, k));
            due("14: waiter(2, true, " + k + ")", -1, x.waiter(2, true, k));
            due("14: waiter(0, true, " + k + ")", -1, x.waiter(0, true, k));
        }
        due("14: waiter(1, true, -1)", -1, x.waiter(1, true, -1));
        due("14: waiter(1, true, MAX)", -1, x.waiter(1, true, MAX));
        due("14: waiter(1, true, MIN)", -1, x.waiter(1, true, MIN));
        due("14: waiter(3, true, 0)", -1, x.waiter(3, true, 0));
        due("14: waiter(-1, true, 0)", -1, x.waiter(-1, true, 0));
        due("14: waiter(-1, false, 0)", -1, x.waiter(-1, false, 0));
        x.kill(1);
        due("14: behind a killed one", 0, x.waiter(1, true, 1));
        due("14: there are two", -1, x.waiter(1, true, 2));
    }

    private static void memory() {
        TaskKernel x = Words.begun(Words.push(42), Words.push(15), Words.word(Words.STORE, 0), Words.push(-1), Words.push(0),
            Words.word(Words.STORE, 0));
        x.run(6);
        due("15: memory(15)", 42, x.memory(15));
        due("15: memory(0)", -1, x.memory(0));
        due("15: memory(1)", 0, x.memory(1));
        due("15: memory(16)", NONE, x.memory(16));
        due("15: memory(-1)", NONE, x.memory(-1));
        due("15: memory(MIN)", NONE, x.memory(MIN));
        due("15: memory(MAX)", NONE, x.memory(MAX));
        x.kill(0);
        due("15: it outlives the task", 42, x.memory(15));
    }

    /** Emits 0, 1, 2 and so on, four steps each. */
    private static TaskKernel counter() {
        return Words.begun(Words.push(0), Words.word(Words.DUP, 0), Words.word(Words.EMIT, 0), Words.push(1),
            Words.word(Words.ADD, 0), Words.word(Words.JUMP, 1));
    }

    private static void runSteps(TaskKernel x, int steps) {
        int left = steps;
        while (left > 0) {
            left -= x.run(Math.min(left, 64));
        }
    }

    private static void emitted() {
        TaskKernel x = counter();
        x.run(2);
        due("16: none yet", 0, x.emitted());
        x.step();
        due("16: one", 1, x.emitted());
        runSteps(x, 5 * 32);
        due("16: more than 32", 33, x.emitted());
        runSteps(x, 5 * 300);
        due("16: many more", 333, x.emitted());
        x.kill(0);
        due("16: the end of the task takes none back", 333, x.emitted());
    }

    private static void out() {
        TaskKernel x = counter();
        due("17: out(0) at first", NONE, x.out(0));
        runSteps(x, 3);
        due("17: out(0)", 0, x.out(0));
        due("17: out(1)", NONE, x.out(1));
        runSteps(x, 5 * 2);
        due("17: out(0)", 2, x.out(0));
        due("17: out(2)", 0, x.out(2));
        due("17: out(3)", NONE, x.out(3));
        runSteps(x, 5 * 29);
        due("17: out(0) of 32", 31, x.out(0));
        due("17: out(31) of 32", 0, x.out(31));
        due("17: out(32) of 32", NONE, x.out(32));
        runSteps(x, 5 * 9);
        due("17: out(0) of 41", 40, x.out(0));
        due("17: out(31) of 41", 9, x.out(31));
        due("17: out(32) of 41", NONE, x.out(32));
        due("17: out(-1)", NONE, x.out(-1));
        due("17: out(MIN)", NONE, x.out(MIN));
        due("17: out(MAX)", NONE, x.out(MAX));
    }

    private static void why() {
        TaskKernel x = new TaskKernel(2, 1, 0, 1);
        Words.load(x, 1, Words.word(Words.SELF, 0), Words.word(Words.KILL, 0));
        int[] trapping = {Words.word(Words.DROP, 0), Words.word(Words.JUMP, 64), Words.word(30, 0), Words.word(Words.BACK, 0),
            Words.word(Words.SEND, 0)};
        int[] reasons = {3, 4, 6, 7, 8};
        Words.load(x, 10, trapping);
        due("18: never ended", 0, x.why(0));
        x.spawn(0, 0);
        due("18: live and never ended", 0, x.why(0));
        x.step();
        due("18: by the op 0", 1, x.why(0));
        x.spawn(1, 0);
        due("18: live again", 1, x.why(0));
        x.run(2);
        due("18: killed by its own 25", 2, x.why(0));
        for (int i = 0; i < trapping.length; i++) {
            x.spawn(10 + i, 0);
            x.step();
            due("18: by a trap", reasons[i], x.why(0));
        }
        x.spawn(20, 0);
        x.kill(0);
        due("18: by kill", 2, x.why(0));
        due("18: another task", 0, x.why(1));
        due("18: why(2)", -1, x.why(2));
        due("18: why(-1)", -1, x.why(-1));
        due("18: why(MIN)", -1, x.why(MIN));
        due("18: why(MAX)", -1, x.why(MAX));
    }

    private static void clock() {
        TaskKernel x = new TaskKernel(1, 1, 0, 1);
        due("19: clock() at first", 0, x.clock());
        for (int i = 1; i <= 200; i++) {
            x.tick();
            due("19: clock()", i, x.clock());
        }
        x.spawn(0, 0);
        x.step();
        x.run(3);
        due("19: steps do not move it", 200, x.clock());
    }
}
