/** The sentences of the promises 1 to 19 that name a boundary case: a test of its own for each. */
public final class PromiseEdgesTest {
    private static final int NONE = TaskKernel.NONE;
    private static final int MIN = Integer.MIN_VALUE;
    private static final int MAX = Integer.MAX_VALUE;
    private static final int[] WRONG_PLACES = {MIN, -1, 64, MAX};
    private static final int[] WRONG_PRIORITIES = {MIN, -1, 8, MAX};

    /** There are five tasks and two queues where these are asked for. */
    private static final int[] WRONG_TASKS = {MIN, -1, 5, 6, 8, MAX};
    private static final int[] WRONG_QUEUES = {MIN, -1, 2, 3, 4, MAX};
    private static final Check CHECK = new Check("PromiseEdgesTest");

    public static void main(String[] args) {
        tasksAreTakenAsTheNearest();
        wordsAreTakenAsTheNearest();
        queuesAreTakenAsTheNearest();
        roomIsTakenAsTheNearest();
        objectsAreApart();
        pokeOfNoSuchPlace();
        pokeAfterSpawn();
        pokeAfterASpawnThatBeganNone();
        spawnOfTheLeastFree();
        spawnOfAWrongPlaceOrPriority();
        spawnWhenNoneIsFree();
        spawnAnswersWrongBeforeNoneFree();
        stepOfATaskThatStaysReady();
        stepOfATaskThatEnds();
        stepOfATaskThatWaits();
        stepOfATaskThatTraps();
        stepWhenNoneIsReady();
        runOfAWrongNumber();
        runOfAtMostN();
        runUntilNoneCanBeMade();
        runUntilItsTaskEnds();
        runGoesOnWhenAnotherEnds();
        tickMovesTheClock();
        tickWakesThoseThatSleptUntilNow();
        tickKeepsTheOrderOfGoingToSleep();
        tickAnswersHowMany();
        killOfEachState();
        killOfOneThatIsNotLive();
        stateOfEach();
        stateOfNoSuchTask();
        taskOfEachWhich();
        taskOfAWakeAndAQueue();
        taskOfOneThatIsNotLive();
        taskOfAWrongWhich();
        stackFromTheTop();
        stackOfNone();
        nextOfNone();
        queueOfEach();
        queueOfNoSuchQueue();
        queuedOfEach();
        queuedOfNone();
        waiterOfEach();
        waiterOfNone();
        memoryOfEach();
        memoryOfNone();
        emittedMoreThan32();
        outOfEachK();
        outOfAWrongK();
        outOfNone();
        whyOfEach();
        whyWhenLiveAgain();
        whyOfTheLastTime();
        whyOfNoSuchTask();
        clockOfTicks();
        CHECK.finish();
    }

    private static void due(String call, long want, long got) {
        CHECK.due(call, want, got);
    }

    private static int w(int op, int x) {
        return Words.word(op, x);
    }

    private static int w(int op) {
        return Words.word(op, 0);
    }

    private static void tasksAreTakenAsTheNearest() {
        CHECK.sentence("Promise 1: T is tasks, taken as the nearest of 1 .. 8");
        int[] asked = {MIN, -1, 0, 1, 2, 7, 8, 9, MAX};
        int[] taken = {1, 1, 1, 1, 2, 7, 8, 8, 8};
        for (int i = 0; i < asked.length; i++) {
            TaskKernel x = new TaskKernel(asked[i], 1, 1, 1);
            for (int t = 0; t < taken[i]; t++) {
                due(asked[i] + " tasks: spawn(0, 0)", t, x.spawn(0, 0));
            }
            due(asked[i] + " tasks: spawn(0, 0) when all are live", -1, x.spawn(0, 0));
            due(asked[i] + " tasks: state of the last", 1, x.state(taken[i] - 1));
            due(asked[i] + " tasks: state behind it", -1, x.state(taken[i]));
        }
    }

    private static void wordsAreTakenAsTheNearest() {
        CHECK.sentence("Promise 1: W is words, taken as the nearest of 1 .. 16");
        int[] asked = {MIN, -1, 0, 1, 2, 15, 16, 17, MAX};
        int[] taken = {1, 1, 1, 1, 2, 15, 16, 16, 16};
        for (int i = 0; i < asked.length; i++) {
            TaskKernel x = new TaskKernel(1, asked[i], 1, 1);
            Words.load(x, 0, Words.times(20, Words.push(3)));
            x.spawn(0, 0);
            for (int height = 1; height <= taken[i]; height++) {
                due(asked[i] + " words: number " + height, 0, x.step());
            }
            due(asked[i] + " words: height", taken[i], x.task(0, 2));
            due(asked[i] + " words: one more", 9, x.step());
        }
    }

    private static void queuesAreTakenAsTheNearest() {
        CHECK.sentence("Promise 1: Q is queues, taken as the nearest of 0 .. 4");
        int[] asked = {MIN, -1, 0, 1, 3, 4, 5, MAX};
        int[] taken = {0, 0, 0, 1, 3, 4, 4, 4};
        for (int i = 0; i < asked.length; i++) {
            TaskKernel x = new TaskKernel(1, 1, asked[i], 1);
            due(asked[i] + " queues: queue(-1)", -1, x.queue(-1));
            for (int q = 0; q < 6; q++) {
                due(asked[i] + " queues: queue(" + q + ")", q < taken[i] ? 0 : -1, x.queue(q));
            }
            Words.load(x, 0, w(Words.RECEIVE, taken[i]), w(Words.RECEIVE, taken[i] - 1));
            x.spawn(0, 0);
            due(asked[i] + " queues: op 22 behind the last", 14, x.step());
            x.spawn(1, 0);
            due(asked[i] + " queues: op 22 of the last", taken[i] > 0 ? 4 : 14, x.step());
        }
    }

    private static void roomIsTakenAsTheNearest() {
        CHECK.sentence("Promise 1: C is room, taken as the nearest of 1 .. 6");
        int[] asked = {MIN, -1, 0, 1, 2, 5, 6, 7, MAX};
        int[] taken = {1, 1, 1, 1, 2, 5, 6, 6, 6};
        for (int i = 0; i < asked.length; i++) {
            TaskKernel x = new TaskKernel(1, 1, 4, asked[i]);
            Words.load(x, 0, Words.push(3), w(Words.SEND, 3), w(Words.JUMP, 0));
            x.spawn(0, 0);
            due(asked[i] + " room: run(64)", 3 * taken[i] + 2, x.run(64));
            due(asked[i] + " room: queue(3)", taken[i], x.queue(3));
            due(asked[i] + " room: state(0)", 3, x.state(0));
        }
    }

    private static void objectsAreApart() {
        CHECK.sentence("Promise 1: A new object");
        TaskKernel x = Words.begun(Words.push(7), w(Words.EMIT), Words.push(7), Words.push(7), w(Words.STORE), Words.push(7),
            w(Words.SEND, 0));
        x.run(7);
        x.tick();
        TaskKernel y = new TaskKernel(4, 8, 3, 2);
        due("state(0)", 0, y.state(0));
        due("clock()", 0, y.clock());
        due("emitted()", 0, y.emitted());
        due("memory(7)", 0, y.memory(7));
        due("queue(0)", 0, y.queue(0));
        CHECK.due("poke(0, 0)", true, y.poke(0, 0));
    }

    private static void pokeOfNoSuchPlace() {
        CHECK.sentence("Promise 2: false when there is no such place");
        TaskKernel x = new TaskKernel(1, 1, 0, 1);
        int[] wrong = {MIN, -64, -1, 64, 65, MAX};
        for (int place : wrong) {
            CHECK.due("poke(" + place + ", 1)", false, x.poke(place, 1));
        }
        int[] right = {0, 1, 62, 63};
        for (int place : right) {
            CHECK.due("poke(" + place + ", 1)", true, x.poke(place, Words.push(place)));
            CHECK.due("poke(" + place + ", 1) again", true, x.poke(place, Words.push(place + 1)));
        }
        for (int place : right) {
            x.spawn(place, 0);
            x.step();
            due("the last word at " + place, place + 1, x.stack(0, 0));
            x.kill(0);
        }
    }

    private static void pokeAfterSpawn() {
        CHECK.sentence("Promise 2: or spawn() has begun a task (whether one is live still or not)");
        TaskKernel x = new TaskKernel(2, 1, 0, 1);
        CHECK.due("poke before a task is begun", true, x.poke(0, Words.push(4)));
        x.spawn(0, 0);
        CHECK.due("poke with one live", false, x.poke(0, Words.push(5)));
        x.step();
        due("the word is as it was", 4, x.stack(0, 0));
        x.kill(0);
        CHECK.due("poke when it was killed", false, x.poke(0, Words.push(5)));
        x.spawn(1, 0);
        x.step();
        due("it ended by op 0", 1, x.why(0));
        CHECK.due("poke when it has ended", false, x.poke(0, Words.push(5)));
        CHECK.due("poke(64) when it has ended", false, x.poke(64, 0));
        x.spawn(0, 0);
        x.step();
        due("the word is as it was", 4, x.stack(0, 0));
    }

    private static void pokeAfterASpawnThatBeganNone() {
        CHECK.sentence("Promise 2: or spawn() has begun a task");
        TaskKernel x = new TaskKernel(1, 1, 0, 1);
        x.spawn(64, 0);
        x.spawn(-1, 0);
        x.spawn(0, 8);
        x.spawn(0, -1);
        CHECK.due("poke after calls of spawn that began none", true, x.poke(0, Words.push(4)));
        x.step();
        x.run(1);
        x.tick();
        x.kill(0);
        CHECK.due("poke after other calls", true, x.poke(0, Words.push(5)));
    }

    private static void spawnOfTheLeastFree() {
        CHECK.sentence("Promise 3: The least free task begins: its number");
        TaskKernel x = new TaskKernel(8, 1, 0, 1);
        for (int t = 0; t < 8; t++) {
            due("spawn", t, x.spawn(t, t));
            due("task(" + t + ", 0)", t, x.task(t, 0));
            due("task(" + t + ", 1)", t, x.task(t, 1));
        }
        x.kill(7);
        x.kill(3);
        x.kill(0);
        due("spawn(63, 7)", 0, x.spawn(63, 7));
        due("spawn(63, 7)", 3, x.spawn(63, 7));
        due("spawn(63, 7)", 7, x.spawn(63, 7));
        due("spawn(63, 7)", -1, x.spawn(63, 7));
    }

    private static void dueWrongSpawns(TaskKernel x) {
        for (int place : WRONG_PLACES) {
            due("spawn(" + place + ", 0)", -2, x.spawn(place, 0));
            due("spawn(" + place + ", 7)", -2, x.spawn(place, 7));
            due("spawn(" + place + ", 8)", -2, x.spawn(place, 8));
        }
        for (int priority : WRONG_PRIORITIES) {
            due("spawn(0, " + priority + ")", -2, x.spawn(0, priority));
            due("spawn(63, " + priority + ")", -2, x.spawn(63, priority));
        }
    }

    private static void spawnOfAWrongPlaceOrPriority() {
        CHECK.sentence("Promise 3: -2 when place is not 0 .. 63 or priority not 0 .. 7");
        TaskKernel x = new TaskKernel(4, 1, 0, 1);
        dueWrongSpawns(x);
        due("none was begun", 0, x.state(0));
        due("spawn(0, 0)", 0, x.spawn(0, 0));
        due("spawn(0, 7)", 1, x.spawn(0, 7));
        due("spawn(63, 0)", 2, x.spawn(63, 0));
        due("spawn(63, 7)", 3, x.spawn(63, 7));
    }

    private static void spawnWhenNoneIsFree() {
        CHECK.sentence("Promise 3: else -1 when none is free");
        TaskKernel x = new TaskKernel(2, 1, 1, 1);
        Words.load(x, 0, w(Words.RECEIVE, 0));
        x.spawn(0, 0);
        x.spawn(5, 0);
        due("spawn(0, 0)", -1, x.spawn(0, 0));
        due("spawn(63, 7)", -1, x.spawn(63, 7));
        x.step();
        due("one that waits is not free", -1, x.spawn(0, 0));
        x.step();
        due("one that has ended is", 1, x.spawn(0, 0));
    }

    private static void spawnAnswersWrongBeforeNoneFree() {
        CHECK.sentence("Promise 3: -2 when place is not 0 .. 63 or priority not 0 .. 7, else -1 when none is free");
        TaskKernel x = new TaskKernel(1, 1, 0, 1);
        x.spawn(0, 0);
        dueWrongSpawns(x);
        due("spawn(0, 0)", -1, x.spawn(0, 0));
    }

    /** Eight tasks: 0 .. 6 idle with the priority 0; what is begun next is task 7. */
    private static TaskKernel sevenIdle() {
        TaskKernel x = new TaskKernel(8, 1, 1, 1);
        Words.load(x, 0, Words.push(1), w(Words.SLEEP), w(Words.RECEIVE, 0), w(Words.RECEIVE, 0), w(Words.RECEIVE, 0));
        Words.load(x, 10, Words.push(1), w(Words.SEND, 0), Words.push(1), w(Words.SEND, 0));
        Words.load(x, 20, w(Words.SELF), w(Words.KILL));
        Words.load(x, 30, w(Words.DROP), w(Words.JUMP, 64), w(31), w(Words.BACK), w(Words.SEND, 1));
        for (int t = 0; t < 7; t++) {
            x.spawn(63, 0);
        }
        return x;
    }

    private static void stepOfATaskThatStaysReady() {
        CHECK.sentence("Promise 4: 16 * the task that made it + 0 when it is ready after it");
        TaskKernel x = new TaskKernel(8, 1, 0, 1);
        Words.load(x, 0, Words.push(1));
        for (int t = 0; t < 8; t++) {
            x.spawn(0, t);
            due("step() of task " + t, 16 * t, x.step());
        }
    }

    private static void stepOfATaskThatEnds() {
        CHECK.sentence("Promise 4: 1 when it has ended by 0 or 25");
        TaskKernel x = sevenIdle();
        x.spawn(20, 7);
        due("op 25 of itself", 16 * 7 + 1, Probe.lastAnswer(x, 2));
        x.spawn(40, 7);
        due("op 0", 16 * 7 + 1, x.step());
        for (int t = 0; t < 7; t++) {
            due("op 0 of task " + t, 16 * t + 1, x.step());
        }
    }

    private static void stepOfATaskThatWaits() {
        CHECK.sentence("Promise 4: 2 when it sleeps, 3 when it is sending, 4 when it is receiving");
        TaskKernel x = sevenIdle();
        x.spawn(0, 7);
        due("it sleeps", 16 * 7 + 2, Probe.lastAnswer(x, 2));
        x.kill(7);
        x.spawn(10, 7);
        due("it is sending", 16 * 7 + 3, Probe.lastAnswer(x, 4));
        x.kill(7);
        x.spawn(2, 7);
        due("the queue held a number", 16 * 7, x.step());
        x.kill(7);
        x.spawn(2, 7);
        due("it is receiving", 16 * 7 + 4, x.step());
    }

    private static void stepOfATaskThatTraps() {
        CHECK.sentence("Promise 4: 8 + c when it has ended by the TRAP c");
        int[] marks = {9, 10, 12, 13, 14};
        for (int i = 0; i < marks.length; i++) {
            TaskKernel x = sevenIdle();
            x.spawn(30 + i, 7);
            due("a trap of task 7", 16 * 7 + marks[i], x.step());
        }
        TaskKernel y = Words.begun(Words.push(1), Words.push(0), w(Words.DIV));
        due("the trap 3 of task 0", 11, Probe.lastAnswer(y, 3));
    }

    private static void stepWhenNoneIsReady() {
        CHECK.sentence("Promise 4: -1 when no task is ready");
        TaskKernel x = new TaskKernel(3, 1, 2, 1);
        Words.load(x, 0, Words.push(9), w(Words.SLEEP));
        Words.load(x, 10, Words.push(1), w(Words.SEND, 0), Words.push(1), w(Words.SEND, 0));
        Words.load(x, 20, w(Words.RECEIVE, 1));
        due("none is live", -1, x.step());
        x.spawn(0, 0);
        x.run(2);
        due("one sleeps", -1, x.step());
        x.spawn(10, 0);
        x.run(4);
        due("one is sending", -1, x.step());
        x.spawn(20, 0);
        x.run(1);
        due("one is receiving", -1, x.step());
        due("state(0)", 2, x.state(0));
        due("state(1)", 3, x.state(1));
        due("state(2)", 4, x.state(2));
        x.kill(0);
        x.spawn(60, 0);
        due("one is ready", 1, x.step());
        due("it has ended", -1, x.step());
    }

    private static void runOfAWrongNumber() {
        CHECK.sentence("Promise 5: -1 when n is not 1 .. 64");
        int[] wrong = {MIN, -1, 0, 65, MAX};
        TaskKernel x = Words.begun(w(Words.JUMP, 1), w(Words.JUMP, 0));
        for (int n : wrong) {
            due("run(" + n + ")", -1, x.run(n));
            due("run(" + n + ") makes no step", 0, x.task(0, 0));
            due("run(" + n + ") with no task", -1, new TaskKernel(1, 1, 0, 1).run(n));
        }
    }

    private static void runOfAtMostN() {
        CHECK.sentence("Promise 5: At most n steps, 1 .. 64");
        for (int n = 1; n <= 64; n++) {
            TaskKernel x = Words.begunWith(2, Words.push(0), Words.push(1), w(Words.ADD), w(Words.DROP), w(Words.CLOCK),
                w(Words.EMIT), w(Words.JUMP, 0));
            due("run(" + n + ")", n, x.run(n));
            due("run(" + n + "): place", n % 7, x.task(0, 0));
            due("run(" + n + "): emitted", (n + 1) / 7, x.emitted());
        }
    }

    private static void runUntilNoneCanBeMade() {
        CHECK.sentence("Promise 5: until none can be made");
        TaskKernel x = new TaskKernel(3, 1, 1, 1);
        Words.load(x, 0, Words.push(2), w(Words.SLEEP), w(Words.PRIORITY, 1), w(Words.RECEIVE, 0));
        due("run(1) with no task", 0, x.run(1));
        due("run(64) with no task", 0, x.run(64));
        x.spawn(0, 0);
        x.spawn(0, 0);
        due("both sleep", 4, x.run(64));
        due("run(64) when both sleep", 0, x.run(64));
        due("run(1) when both sleep", 0, x.run(1));
        x.tick();
        x.tick();
        due("both receive", 4, x.run(4));
        due("run(1) when both receive", 0, x.run(1));
    }

    private static void runUntilItsTaskEnds() {
        CHECK.sentence("Promise 5: or the task that made one has ended (that step counts)");
        int[][] endings = {{w(Words.END)}, {w(Words.SELF), w(Words.KILL)}, {w(Words.DROP)}, {w(Words.JUMP, 64)},
            {Words.push(1), Words.push(0), w(Words.DIV)}, {w(26)}, {w(Words.BACK)}, {w(Words.SEND, 1)}};
        int[] reasons = {1, 2, 3, 4, 5, 6, 7, 8};
        for (int i = 0; i < endings.length; i++) {
            TaskKernel x = new TaskKernel(2, 2, 1, 1);
            Words.load(x, 0, endings[i]);
            Words.load(x, 10, w(Words.JUMP, 10));
            x.spawn(10, 0);
            x.spawn(0, 1);
            due("run(64) with an end", endings[i].length, x.run(64));
            due("state(1)", 0, x.state(1));
            due("why(1)", reasons[i], x.why(1));
            due("run(64) without it", 64, x.run(64));
            x.spawn(0, 1);
            due("run of just as many steps", endings[i].length, x.run(endings[i].length));
            due("state(1)", 0, x.state(1));
        }
        TaskKernel y = new TaskKernel(2, 1, 0, 1);
        y.spawn(0, 0);
        y.spawn(0, 0);
        due("the first end", 1, y.run(2));
        due("the second end", 1, y.run(2));
        due("no step more", 0, y.run(2));
    }

    private static void runGoesOnWhenAnotherEnds() {
        CHECK.sentence("Promise 5: or the task that made one has ended");
        TaskKernel x = new TaskKernel(3, 1, 1, 1);
        Words.load(x, 0, Words.push(1), w(Words.KILL), w(Words.DROP), w(Words.JUMP, 0));
        Words.load(x, 10, w(Words.RECEIVE, 0));
        x.spawn(0, 1);
        x.spawn(10, 2);
        due("one that waits does not stop it, nor one that is killed", 64, x.run(64));
        due("state(1)", 0, x.state(1));
        due("why(1)", 2, x.why(1));
    }

    private static void tickMovesTheClock() {
        CHECK.sentence("Promise 6: The clock is one more");
        TaskKernel x = new TaskKernel(1, 1, 0, 1);
        for (int now = 1; now <= 250; now++) {
            due("tick() with none asleep", 0, x.tick());
            due("clock()", now, x.clock());
        }
    }

    /** What is begun at 3 * n sleeps for n, with n of 1 .. 5. */
    private static TaskKernel sleepers(int tasks) {
        TaskKernel x = new TaskKernel(tasks, 1, 0, 1);
        for (int n = 1; n <= 5; n++) {
            Words.load(x, 3 * n, Words.push(n), w(Words.SLEEP), w(Words.YIELD));
        }
        return x;
    }

    private static void putToSleep(TaskKernel x, int n) {
        int t = x.spawn(3 * n, 7);
        due("it sleeps", 16 * t + 2, Probe.lastAnswer(x, 2));
        due("when it wakes", x.clock() + n, x.task(t, 4));
    }

    private static void tickWakesThoseThatSleptUntilNow() {
        CHECK.sentence("Promise 6: those that slept until now become ready");
        TaskKernel x = sleepers(5);
        for (int n = 1; n <= 5; n++) {
            putToSleep(x, n);
        }
        for (int now = 1; now <= 5; now++) {
            due("one wakes at " + now, 1, x.tick());
            for (int t = 0; t < 5; t++) {
                due("state(" + t + ") at " + now, t < now ? 1 : 2, x.state(t));
                due("task(" + t + ", 4) at " + now, t < now ? 0 : t + 1, x.task(t, 4));
            }
        }
        due("none wakes twice", 0, x.tick());
    }

    private static void tickKeepsTheOrderOfGoingToSleep() {
        CHECK.sentence("Promise 6: in the order in which they went to sleep");
        TaskKernel x = sleepers(4);
        x.spawn(60, 0);
        putToSleep(x, 3);
        putToSleep(x, 3);
        x.tick();
        x.kill(0);
        putToSleep(x, 2);
        due("task 0 went to sleep last, for less", 3, x.task(0, 4));
        x.tick();
        putToSleep(x, 1);
        x.kill(1);
        putToSleep(x, 1);
        due("four wake", 4, x.tick());
        int[] order = {2, 0, 3, 1};
        for (int t : order) {
            due("the one that went to sleep first", t, x.next());
            due("op 16", 16 * t, x.step());
        }
    }

    private static void tickAnswersHowMany() {
        CHECK.sentence("Promise 6: Answers how many these were.");
        for (int many = 0; many <= 8; many++) {
            TaskKernel x = sleepers(8);
            for (int t = 0; t < many; t++) {
                putToSleep(x, 2);
            }
            due(many + " sleep: too early", 0, x.tick());
            due(many + " sleep: all wake", many, x.tick());
            due(many + " slept: none sleeps", 0, x.tick());
        }
        TaskKernel y = sleepers(8);
        putToSleep(y, 1);
        putToSleep(y, 1);
        y.kill(0);
        due("one was killed", 1, y.tick());
    }

    /** Task 0 ready, 1 sleeping, 2 sending to queue 1, 3 receiving from queue 0, 4 free. */
    private static TaskKernel oneOfEach() {
        TaskKernel x = new TaskKernel(5, 2, 2, 1);
        Words.load(x, 0, w(Words.JUMP, 0));
        Words.load(x, 10, Words.push(3), w(Words.SLEEP));
        Words.load(x, 20, Words.push(8), w(Words.SEND, 1), Words.push(9), w(Words.SEND, 1));
        Words.load(x, 30, w(Words.RECEIVE, 0));
        x.spawn(0, 1);
        x.spawn(10, 2);
        x.spawn(20, 3);
        x.spawn(30, 4);
        x.tick();
        x.run(7);
        return x;
    }

    private static void killOfEachState() {
        CHECK.sentence("Promise 7: A task ends.");
        for (int t = 0; t < 4; t++) {
            TaskKernel x = oneOfEach();
            CHECK.due("kill(" + t + ")", true, x.kill(t));
            due("state(" + t + ")", 0, x.state(t));
            due("why(" + t + ")", 2, x.why(t));
            due("next()", t == 0 ? -1 : 0, x.next());
            CHECK.due("kill(" + t + ") again", false, x.kill(t));
        }
    }

    private static void killOfOneThatIsNotLive() {
        CHECK.sentence("Promise 7: False when it is not live.");
        TaskKernel x = oneOfEach();
        CHECK.due("kill(4), which was never live", false, x.kill(4));
        for (int t : WRONG_TASKS) {
            CHECK.due("kill(" + t + ")", false, x.kill(t));
        }
        due("why(4)", 0, x.why(4));
        TaskKernel y = Words.begun(w(Words.END));
        y.step();
        CHECK.due("kill(0) when it has ended", false, y.kill(0));
        due("why(0)", 1, y.why(0));
    }

    private static void stateOfEach() {
        CHECK.sentence("Promise 8: 0 free, 1 ready, 2 sleeping, 3 sending, 4 receiving");
        TaskKernel x = oneOfEach();
        int[] states = {1, 2, 3, 4, 0};
        for (int t = 0; t < 5; t++) {
            due("state(" + t + ")", states[t], x.state(t));
        }
    }

    private static void stateOfNoSuchTask() {
        CHECK.sentence("Promise 8: -1 when there is no such task");
        TaskKernel x = oneOfEach();
        for (int t : WRONG_TASKS) {
            due("state(" + t + ")", -1, x.state(t));
        }
        due("state(1) of one task", -1, new TaskKernel(1, 1, 0, 1).state(1));
        due("state(8) of eight tasks", -1, new TaskKernel(8, 1, 0, 1).state(8));
    }

    private static void taskOfEachWhich() {
        CHECK.sentence(
            "Promise 9: Of a live task: 0 its place, 1 its priority, 2 how many numbers its stack has, 3 how many frames it has");
        TaskKernel x = new TaskKernel(1, 16, 0, 1);
        Words.load(x, 0, w(Words.CALL, 1), w(Words.CALL, 2), w(Words.CALL, 3), w(Words.CALL, 4), w(Words.PRIORITY, 7));
        Words.load(x, 5, Words.times(16, Words.push(1)));
        x.spawn(0, 0);
        int[][] fields = {{0, 0, 0, 0}, {1, 0, 0, 1}, {2, 0, 0, 2}, {3, 0, 0, 3}, {4, 0, 0, 4}, {5, 7, 0, 4}, {6, 7, 1, 4}};
        for (int made = 0; made < fields.length; made++) {
            for (int which = 0; which < 4; which++) {
                due("after " + made + " steps: task(0, " + which + ")", fields[made][which], x.task(0, which));
            }
            x.step();
        }
        x.run(14);
        due("a full stack: task(0, 2)", 16, x.task(0, 2));
        due("task(0, 0)", 21, x.task(0, 0));
    }

    private static void taskOfAWakeAndAQueue() {
        CHECK.sentence(
            "Promise 9: 4 the clock at which it wakes (0 when it does not sleep), 5 the queue at which it waits (-1 for none)");
        TaskKernel x = oneOfEach();
        int[] wakes = {0, 4, 0, 0};
        int[] queues = {-1, -1, 1, 0};
        for (int t = 0; t < 4; t++) {
            due("task(" + t + ", 4)", wakes[t], x.task(t, 4));
            due("task(" + t + ", 5)", queues[t], x.task(t, 5));
        }
        x.tick();
        x.tick();
        due("task(1, 4) before it wakes", 4, x.task(1, 4));
        x.tick();
        due("task(1, 4) when it is awake", 0, x.task(1, 4));
    }

    private static void taskOfOneThatIsNotLive() {
        CHECK.sentence("Promise 9: NONE when it is not live");
        TaskKernel x = oneOfEach();
        for (int which = -1; which <= 6; which++) {
            due("task(4, " + which + ")", NONE, x.task(4, which));
            for (int t : WRONG_TASKS) {
                due("task(" + t + ", " + which + ")", NONE, x.task(t, which));
            }
        }
        for (int t = 0; t < 4; t++) {
            x.kill(t);
            for (int which = 0; which < 6; which++) {
                due("killed: task(" + t + ", " + which + ")", NONE, x.task(t, which));
            }
        }
    }

    private static void taskOfAWrongWhich() {
        CHECK.sentence("Promise 9: or which is not 0 .. 5");
        TaskKernel x = oneOfEach();
        int[] wrong = {MIN, -1, 6, 7, MAX};
        for (int t = 0; t < 4; t++) {
            for (int which : wrong) {
                due("task(" + t + ", " + which + ")", NONE, x.task(t, which));
            }
            CHECK.due("task(" + t + ", 0)", true, x.task(t, 0) != NONE);
            CHECK.due("task(" + t + ", 5)", true, x.task(t, 5) != NONE);
        }
    }

    private static void stackFromTheTop() {
        CHECK.sentence("Promise 10: Number k of the stack of a live task, from the top (0)");
        TaskKernel x = new TaskKernel(1, 16, 0, 1);
        for (int i = 0; i < 16; i++) {
            Words.load(x, i, Words.push(100 + i));
        }
        x.spawn(0, 0);
        x.run(16);
        for (int k = 0; k < 16; k++) {
            due("stack(0, " + k + ")", 115 - k, x.stack(0, k));
        }
        TaskKernel y = Words.begun(Words.push(6), Words.push(2), w(Words.SLEEP));
        y.run(3);
        due("the stack of one that sleeps", 6, y.stack(0, 0));
    }

    private static void stackOfNone() {
        CHECK.sentence("Promise 10: NONE when there is none");
        TaskKernel x = new TaskKernel(5, 2, 0, 1);
        Words.load(x, 0, Words.push(5), Words.push(6));
        x.spawn(0, 0);
        due("an empty stack", NONE, x.stack(0, 0));
        x.run(2);
        int[] wrong = {MIN, -1, 2, 3, 16, MAX};
        for (int k : wrong) {
            due("stack(0, " + k + ")", NONE, x.stack(0, k));
        }
        for (int t : WRONG_TASKS) {
            due("stack(" + t + ", 0)", NONE, x.stack(t, 0));
        }
        due("a free task", NONE, x.stack(1, 0));
        x.kill(0);
        due("a task that has ended", NONE, x.stack(0, 0));
        x.spawn(0, 0);
        due("a task that is begun again", NONE, x.stack(0, 0));
        x.step();
        due("its only number", 5, x.stack(0, 0));
        due("what was there before", NONE, x.stack(0, 1));
    }

    private static void nextOfNone() {
        CHECK.sentence("Promise 11: The next task; -1 when none is ready.");
        due("no task", -1, new TaskKernel(8, 1, 0, 1).next());
        TaskKernel x = oneOfEach();
        due("the only one that is ready", 0, x.next());
        x.kill(0);
        due("none of those that wait", -1, x.next());
        x.kill(1);
        x.kill(2);
        x.kill(3);
        due("none is live", -1, x.next());
        x.spawn(0, 0);
        due("the one of priority 0", 0, x.next());
    }

    private static void queueOfEach() {
        CHECK.sentence("Promise 12: How many numbers a queue holds");
        TaskKernel x = new TaskKernel(1, 1, 4, 6);
        Words.load(x, 0, Words.push(1), w(Words.SEND, 3), w(Words.JUMP, 0));
        x.spawn(0, 0);
        for (int held = 0; held <= 6; held++) {
            due("queue(3)", held, x.queue(3));
            due("queue(0)", 0, x.queue(0));
            x.run(3);
        }
        due("one that waits does not count", 6, x.queue(3));
    }

    private static void queueOfNoSuchQueue() {
        CHECK.sentence("Promise 12: -1 when there is no such queue");
        TaskKernel x = oneOfEach();
        for (int q : WRONG_QUEUES) {
            due("queue(" + q + ")", -1, x.queue(q));
        }
        due("queue(0) of none", -1, new TaskKernel(1, 1, 0, 1).queue(0));
        due("queue(4) of four", -1, new TaskKernel(1, 1, 4, 1).queue(4));
    }

    private static void queuedOfEach() {
        CHECK.sentence("Promise 13: Number k (from 0) of a queue");
        TaskKernel x = new TaskKernel(1, 1, 1, 6);
        for (int i = 0; i < 6; i++) {
            Words.load(x, 2 * i, Words.push(70 + i), w(Words.SEND, 0));
        }
        x.spawn(0, 0);
        x.run(12);
        for (int k = 0; k < 6; k++) {
            due("queued(0, " + k + ")", 70 + k, x.queued(0, k));
        }
        due("queued(0, 6)", NONE, x.queued(0, 6));
    }

    private static void queuedOfNone() {
        CHECK.sentence("Promise 13: NONE when there is none");
        TaskKernel x = oneOfEach();
        due("queued(1, 0)", 8, x.queued(1, 0));
        int[] wrong = {MIN, -1, 1, 2, 6, MAX};
        for (int k : wrong) {
            due("queued(1, " + k + ")", NONE, x.queued(1, k));
        }
        due("an empty queue", NONE, x.queued(0, 0));
        for (int q : WRONG_QUEUES) {
            due("queued(" + q + ", 0)", NONE, x.queued(q, 0));
        }
    }

    private static void waiterOfEach() {
        CHECK.sentence("Promise 14: The k-th (from 0) task that waits at a queue, to send (sends true) or to receive");
        TaskKernel x = new TaskKernel(8, 1, 4, 1);
        Words.load(x, 0, Words.push(1), w(Words.SEND, 3), w(Words.JUMP, 0));
        Words.load(x, 10, w(Words.RECEIVE, 0));
        for (int t = 0; t < 8; t++) {
            x.spawn(t % 2 == 0 ? 0 : 10, 7 - t);
        }
        x.run(64);
        for (int k = 0; k < 4; k++) {
            due("waiter(3, true, " + k + ")", 2 * k, x.waiter(3, true, k));
            due("waiter(0, false, " + k + ")", 2 * k + 1, x.waiter(0, false, k));
        }
    }

    private static void waiterOfNone() {
        CHECK.sentence("Promise 14: -1 when there is none");
        TaskKernel x = oneOfEach();
        due("waiter(1, true, 0)", 2, x.waiter(1, true, 0));
        due("waiter(0, false, 0)", 3, x.waiter(0, false, 0));
        due("waiter(1, false, 0)", -1, x.waiter(1, false, 0));
        due("waiter(0, true, 0)", -1, x.waiter(0, true, 0));
        int[] wrong = {MIN, -1, 1, 2, 8, MAX};
        for (int k : wrong) {
            due("waiter(1, true, " + k + ")", -1, x.waiter(1, true, k));
            due("waiter(0, false, " + k + ")", -1, x.waiter(0, false, k));
        }
        for (int q : WRONG_QUEUES) {
            due("waiter(" + q + ", true, 0)", -1, x.waiter(q, true, 0));
            due("waiter(" + q + ", false, 0)", -1, x.waiter(q, false, 0));
        }
    }

    private static void memoryOfEach() {
        CHECK.sentence("Promise 15: Number a of the memory");
        TaskKernel x = new TaskKernel(1, 2, 0, 1);
        for (int a = 0; a < 16; a++) {
            Words.load(x, 3 * a, Words.push(30 + a), Words.push(a), w(Words.STORE));
        }
        x.spawn(0, 0);
        x.run(48);
        for (int a = 0; a < 16; a++) {
            due("memory(" + a + ")", 30 + a, x.memory(a));
        }
    }

    private static void memoryOfNone() {
        CHECK.sentence("Promise 15: NONE when there is none");
        TaskKernel x = new TaskKernel(1, 2, 0, 1);
        int[] wrong = {MIN, -1, 16, 17, 64, MAX};
        for (int a : wrong) {
            due("memory(" + a + ")", NONE, x.memory(a));
        }
    }

    /** Emits 0, 1, 2 and so on: the first with three steps, each further one with five. */
    private static TaskKernel counter(int emits) {
        TaskKernel x = Words.begun(Words.push(0), w(Words.DUP), w(Words.EMIT), Words.push(1), w(Words.ADD), w(Words.JUMP, 1));
        for (int i = 0; i < emits; i++) {
            x.run(i == 0 ? 3 : 5);
        }
        return x;
    }

    private static void emittedMoreThan32() {
        CHECK.sentence("Promise 16: How many numbers were emitted (also more than 32).");
        int[] many = {0, 1, 31, 32, 33, 63, 64, 65, 500};
        for (int emits : many) {
            due("emitted()", emits, counter(emits).emitted());
        }
        TaskKernel x = counter(3);
        x.kill(0);
        due("the end of its task takes none back", 3, x.emitted());
    }

    private static void outOfEachK() {
        CHECK.sentence("Promise 17: The number that was emitted k before the latest one (0: that)");
        int[] many = {1, 2, 31, 32, 33, 34, 63, 64, 65, 200};
        for (int emits : many) {
            TaskKernel x = counter(emits);
            for (int k = 0; k < Math.min(emits, 32); k++) {
                due("out(" + k + ") of " + emits, emits - 1 - k, x.out(k));
            }
        }
    }

    private static void outOfAWrongK() {
        CHECK.sentence("Promise 17: NONE when k is not 0 .. 31");
        TaskKernel x = counter(100);
        int[] wrong = {MIN, -1, 32, 33, 64, MAX};
        for (int k : wrong) {
            due("out(" + k + ")", NONE, x.out(k));
        }
        due("out(0)", 99, x.out(0));
        due("out(31)", 68, x.out(31));
    }

    private static void outOfNone() {
        CHECK.sentence("Promise 17: or there is none");
        for (int emits = 0; emits <= 31; emits++) {
            TaskKernel x = counter(emits);
            due("out(" + emits + ") of " + emits, NONE, x.out(emits));
            due("out(31) of " + emits, NONE, x.out(31));
            due("out(-1) of " + emits, NONE, x.out(-1));
            if (emits > 0) {
                due("the first of " + emits, 0, x.out(emits - 1));
            }
        }
    }

    /** Task 0 is begun there, makes so many steps and must have ended for this reason. */
    private static void dueEnd(TaskKernel x, int place, int steps, int reason) {
        int before = x.why(0);
        x.spawn(place, 7);
        due("why(0) while it is live again", before, x.why(0));
        x.run(steps);
        due("state(0)", 0, x.state(0));
        due("why(0)", reason, x.why(0));
    }

    private static TaskKernel endings() {
        TaskKernel x = new TaskKernel(2, 2, 1, 1);
        Words.load(x, 10, w(Words.SELF), w(Words.KILL));
        Words.load(x, 20, w(Words.DROP), w(Words.JUMP, 64));
        Words.load(x, 30, Words.push(1), Words.push(0), w(Words.DIV));
        Words.load(x, 40, w(26), w(Words.BACK), w(Words.SEND, 1));
        Words.load(x, 50, Words.push(0), w(Words.KILL), w(Words.JUMP, 50));
        return x;
    }

    private static void whyOfEach() {
        CHECK.sentence("Promise 18: 0 it never did, 1 by the op 0, 2 killed (by kill or 25, its own, too), 2 + c by the TRAP c");
        TaskKernel x = endings();
        due("why(0) at first", 0, x.why(0));
        due("why(1) at first", 0, x.why(1));
        dueEnd(x, 0, 1, 1);
        dueEnd(x, 10, 2, 2);
        dueEnd(x, 20, 1, 3);
        dueEnd(x, 21, 1, 4);
        dueEnd(x, 30, 3, 5);
        dueEnd(x, 40, 1, 6);
        dueEnd(x, 41, 1, 7);
        dueEnd(x, 42, 1, 8);
        x.spawn(0, 0);
        x.kill(0);
        due("why(0) by kill", 2, x.why(0));
        dueEnd(x, 0, 1, 1);
        x.spawn(0, 0);
        x.spawn(50, 7);
        x.run(2);
        due("why(0) by another one's 25", 2, x.why(0));
        due("why(1)", 0, x.why(1));
    }

    private static void whyWhenLiveAgain() {
        CHECK.sentence("Promise 18: (it may be live again)");
        TaskKernel x = endings();
        x.spawn(20, 7);
        due("live and never ended", 0, x.why(0));
        x.step();
        x.spawn(50, 7);
        due("live again", 3, x.why(0));
        due("a step of it", 0, x.step());
        due("live still", 3, x.why(0));
        x.kill(0);
        due("ended again", 2, x.why(0));
    }

    private static void whyOfTheLastTime() {
        CHECK.sentence("Promise 18: Why task task ended when it did so the last time");
        TaskKernel x = endings();
        dueEnd(x, 42, 1, 8);
        dueEnd(x, 0, 1, 1);
        dueEnd(x, 20, 1, 3);
        CHECK.due("kill(0), which is not live", false, x.kill(0));
        due("it did not end again", 3, x.why(0));
        due("the other one never ended", 0, x.why(1));
    }

    private static void whyOfNoSuchTask() {
        CHECK.sentence("Promise 18: -1 when there is no such task");
        TaskKernel x = oneOfEach();
        for (int t : WRONG_TASKS) {
            due("why(" + t + ")", -1, x.why(t));
        }
        for (int t = 0; t < 5; t++) {
            due("why(" + t + ")", 0, x.why(t));
        }
    }

    private static void clockOfTicks() {
        CHECK.sentence("Promise 19: The clock.");
        TaskKernel x = Words.begun(Words.push(2), w(Words.SLEEP), w(Words.JUMP, 2));
        due("clock() at first", 0, x.clock());
        x.run(64);
        due("clock() after steps", 0, x.clock());
        for (int now = 1; now <= 3; now++) {
            x.tick();
            due("clock() after ticks", now, x.clock());
            due("asking does not move it", now, x.clock());
        }
        x.kill(0);
        x.spawn(0, 0);
        x.poke(0, 0);
        x.run(0);
        due("clock() after other calls", 3, x.clock());
    }
}
