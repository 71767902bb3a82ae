import java.util.ArrayList;
import java.util.List;

/**
 * The sentences of "What it is" and "Terms" that name a boundary case, but for the ops and the queues: a test of its
 * own for each.
 */
public final class TermsEdgesTest {
    private static final int NONE = TaskKernel.NONE;
    private static final int MIN = Integer.MIN_VALUE;
    private static final int MAX = Integer.MAX_VALUE;
    private static final Check CHECK = new Check("TermsEdgesTest");
    private static final Probe PROBE = new Probe(CHECK);

    public static void main(String[] args) {
        codeHas64Words();
        memoryHas16Numbers();
        tasksAre0ToTLess1();
        queuesAre0ToQLess1();
        queuesHoldAtMostC();
        thereMayBeNoQueue();
        stacksHoldAtMostW();
        framesAreAtMost4();
        priorityIs0To7();
        clockIs0AtFirst();
        arrivalsGrow();
        nextIsOfTheGreatestPriority();
        nextHasTheLeastArrival();
        begunTaskIsEmpty();
        endedTaskIsFree();
        endedTaskWaitsNowhere();
        sendersNumberIsGone();
        opIsTheLowFiveBits();
        numberHasASign();
        placeIsOneFurtherFirst();
        stepAtThePlace64();
        trapEndsTheTask();
        whatGoesWrongEndsTheTaskAlone();
        whatWasDoneBeforeATrapStays();
        objectIsUsedFor512Calls();
        CHECK.finish();
    }

    private static void due(String call, long want, long got) {
        CHECK.due(call, want, got);
    }

    private static int w(int op, int x) {
        return Words.word(op, x);
    }

    private static int w(int op) {
        return Words.word(op, 0);
    }

    private static void codeHas64Words() {
        CHECK.sentence("CODE has 64 words, MEMORY 16 numbers; all are 0 at first.");
        TaskKernel x = new TaskKernel(1, 1, 0, 1);
        for (int place = 0; place < 64; place++) {
            due("spawn(" + place + ", 0)", 0, x.spawn(place, 0));
            due("a step at " + place + ", which is op 0", 1, x.step());
        }
        due("spawn(64, 0)", -2, x.spawn(64, 0));
        TaskKernel y = new TaskKernel(1, 1, 0, 1);
        for (int place = 0; place < 64; place++) {
            CHECK.due("poke(" + place + ")", true, y.poke(place, Words.push(place)));
        }
        CHECK.due("poke(64)", false, y.poke(64, Words.push(64)));
        for (int place = 0; place < 64; place++) {
            y.spawn(place, 0);
            y.step();
            due("the word at " + place, place, y.stack(0, 0));
            y.kill(0);
        }
    }

    private static void memoryHas16Numbers() {
        CHECK.sentence("CODE has 64 words, MEMORY 16 numbers; all are 0 at first.");
        TaskKernel x = new TaskKernel(1, 2, 0, 1);
        for (int a = 0; a < 16; a++) {
            due("memory(" + a + ")", 0, x.memory(a));
            PROBE.dueStackWith(1, "op 9 at " + a, new int[] {Words.push(a), w(Words.LOAD)}, 0);
        }
        due("memory(16)", NONE, x.memory(16));
        due("memory(-1)", NONE, x.memory(-1));
        for (int a = 0; a < 16; a++) {
            TaskKernel y = Words.begun(Words.push(50 + a), Words.push(a), w(Words.STORE));
            y.run(3);
            for (int b = 0; b < 16; b++) {
                due("after op 10 at " + a + ": memory(" + b + ")", a == b ? 50 + a : 0, y.memory(b));
            }
        }
    }

    private static void tasksAre0ToTLess1() {
        CHECK.sentence("There are T TASKS 0 .. T - 1, all FREE at first");
        for (int tasks = 1; tasks <= 8; tasks++) {
            TaskKernel x = new TaskKernel(tasks, 1, 0, 1);
            String of = "T = " + tasks + ": ";
            for (int t = 0; t < tasks; t++) {
                due(of + "state(" + t + ")", 0, x.state(t));
            }
            due(of + "state(T)", -1, x.state(tasks));
            due(of + "state(-1)", -1, x.state(-1));
            for (int t = 0; t < tasks; t++) {
                due(of + "spawn(0, 0)", t, x.spawn(0, 0));
            }
            due(of + "spawn(0, 0) once more", -1, x.spawn(0, 0));
            due(of + "state(T - 1)", 1, x.state(tasks - 1));
            due(of + "state(T)", -1, x.state(tasks));
        }
    }

    private static void queuesAre0ToQLess1() {
        CHECK.sentence("Q QUEUES 0 .. Q - 1, empty at first");
        for (int queues = 0; queues <= 4; queues++) {
            TaskKernel x = new TaskKernel(1, 1, queues, 3);
            String of = "Q = " + queues + ": ";
            for (int q = 0; q < queues; q++) {
                due(of + "queue(" + q + ")", 0, x.queue(q));
                due(of + "queued(" + q + ", 0)", NONE, x.queued(q, 0));
                due(of + "waiter(" + q + ", true, 0)", -1, x.waiter(q, true, 0));
                due(of + "waiter(" + q + ", false, 0)", -1, x.waiter(q, false, 0));
            }
            due(of + "queue(Q)", -1, x.queue(queues));
            due(of + "queue(-1)", -1, x.queue(-1));
        }
    }

    private static void queuesHoldAtMostC() {
        CHECK.sentence("which hold at most C numbers");
        for (int room = 1; room <= 6; room++) {
            TaskKernel x = new TaskKernel(1, 1, 4, room);
            Words.load(x, 0, Words.push(5), w(Words.SEND, 3), w(Words.JUMP, 0));
            x.spawn(0, 0);
            for (int sent = 1; sent <= room; sent++) {
                x.step();
                due("C = " + room + ": sending number " + sent, 0, x.step());
                due("C = " + room + ": queue(3)", sent, x.queue(3));
                x.step();
            }
            x.step();
            due("C = " + room + ": sending one more", 3, x.step());
            due("C = " + room + ": queue(3) with one that waits", room, x.queue(3));
            due("C = " + room + ": queued(3, C - 1)", 5, x.queued(3, room - 1));
            due("C = " + room + ": queued(3, C)", NONE, x.queued(3, room));
        }
    }

    private static void thereMayBeNoQueue() {
        CHECK.sentence("Q QUEUES 0 .. Q - 1 (Q is 0)");
        TaskKernel x = new TaskKernel(1, 1, 0, 6);
        Words.load(x, 0, Words.push(5), w(Words.SEND, 0), w(Words.RECEIVE, 0));
        x.spawn(0, 0);
        x.step();
        due("op 21 to queue 0 of none", 14, x.step());
        x.spawn(2, 0);
        due("op 22 from queue 0 of none", 14, x.step());
        due("queue(0)", -1, x.queue(0));
        due("queued(0, 0)", NONE, x.queued(0, 0));
        due("waiter(0, true, 0)", -1, x.waiter(0, true, 0));
        due("waiter(0, false, 0)", -1, x.waiter(0, false, 0));
    }

    private static void stacksHoldAtMostW() {
        CHECK.sentence("a STACK of at most W numbers");
        for (int room = 1; room <= 16; room++) {
            TaskKernel x = Words.begunWith(room, Words.times(room + 1, Words.push(7)));
            for (int height = 1; height <= room; height++) {
                due("W = " + room + ": number " + height, 0, x.step());
                due("W = " + room + ": height", height, x.task(0, 2));
            }
            due("W = " + room + ": stack(0, W - 1)", 7, x.stack(0, room - 1));
            due("W = " + room + ": stack(0, W)", NONE, x.stack(0, room));
            due("W = " + room + ": one more", 9, x.step());
        }
    }

    private static void framesAreAtMost4() {
        CHECK.sentence("FRAMES, at most 4 places");
        TaskKernel x = new TaskKernel(1, 1, 0, 1);
        Words.load(x, 0, w(Words.CALL, 10));
        Words.load(x, 10, w(Words.CALL, 20));
        Words.load(x, 20, w(Words.CALL, 30));
        Words.load(x, 30, w(Words.CALL, 40), w(Words.CALL, 50));
        Words.load(x, 40, w(Words.BACK));
        Words.load(x, 50, w(Words.CALL, 60));
        x.spawn(0, 0);
        for (int frames = 1; frames <= 4; frames++) {
            due("frame " + frames, 0, x.step());
            due("how many frames", frames, x.task(0, 3));
        }
        due("op 14 takes one away", 0, x.step());
        due("three frames", 3, x.task(0, 3));
        due("room for one again", 0, x.step());
        due("four frames", 4, x.task(0, 3));
        due("the fifth", 13, x.step());
        due("why(0)", 7, x.why(0));
    }

    private static void priorityIs0To7() {
        CHECK.sentence("it has a PRIORITY 0 .. 7");
        for (int asked = -9; asked <= 16; asked++) {
            TaskKernel x = new TaskKernel(2, 1, 0, 1);
            Words.load(x, 0, w(Words.PRIORITY, asked), Words.push(asked), w(Words.BEGIN, 5));
            due("spawn(0, " + asked + ")", asked >= 0 && asked <= 7 ? 0 : -2, x.spawn(0, asked));
            x.kill(0);
            x.spawn(0, 7);
            x.step();
            due("op 17 with " + asked, Math.floorMod(asked, 8), x.task(0, 1));
            x.run(2);
            due("op 18 with " + asked, Math.floorMod(asked, 8), x.task(1, 1));
        }
    }

    private static void clockIs0AtFirst() {
        CHECK.sentence("The CLOCK is 0 at first.");
        TaskKernel x = Words.begun(w(Words.CLOCK));
        due("clock()", 0, x.clock());
        x.step();
        due("op 24", 0, x.stack(0, 0));
    }

    /** Kills the next task again and again: they must come in this order. */
    private static void dueOrder(String about, TaskKernel x, int... order) {
        for (int t : order) {
            due(about, t, x.next());
            x.kill(x.next());
        }
        due(about + ": no more", -1, x.next());
    }

    private static void arrivalsGrow() {
        CHECK.sentence("A task that becomes ready gets an ARRIVAL, which is greater than all that were given before.");
        TaskKernel x = new TaskKernel(7, 2, 2, 1);
        Words.load(x, 0, Words.push(1), w(Words.SLEEP));
        Words.load(x, 10, w(Words.RECEIVE, 0));
        Words.load(x, 20, Words.push(8), w(Words.SEND, 1), Words.push(9), w(Words.SEND, 1));
        Words.load(x, 30, Words.push(5), w(Words.SEND, 0), w(Words.RECEIVE, 1), Words.push(4), w(Words.BEGIN, 50), w(Words.YIELD));
        x.spawn(0, 4);
        x.spawn(10, 4);
        x.spawn(20, 4);
        x.spawn(60, 4);
        x.spawn(30, 4);
        x.run(2);
        x.run(1);
        x.run(4);
        due("task 0 sleeps", 2, x.state(0));
        due("task 1 receives", 4, x.state(1));
        due("task 2 sends", 3, x.state(2));
        x.kill(3);
        x.run(3);
        due("task 1 got a number", 5, x.stack(1, 0));
        due("task 2's number went on", 9, x.queued(1, 0));
        x.tick();
        due("the one that runs came before them all", 4, x.next());
        x.run(2);
        due("it begins task 3", 1, x.state(3));
        x.step();
        x.spawn(61, 4);
        dueOrder("received, sent, awake, begun by 18, ready anew, begun by spawn", x, 1, 2, 0, 3, 4, 5);
    }

    private static void nextIsOfTheGreatestPriority() {
        CHECK.sentence("Of the ready tasks the one with the greatest priority is NEXT");
        TaskKernel x = new TaskKernel(8, 1, 1, 1);
        Words.load(x, 0, w(Words.RECEIVE, 0));
        for (int priority = 0; priority < 8; priority++) {
            x.spawn(0, priority);
            due("next() with 0 .. " + priority, priority, x.next());
        }
        for (int priority = 7; priority >= 0; priority--) {
            due("step() with 0 .. " + priority, 16 * priority + 4, x.step());
        }
        due("none of those that wait is next", -1, x.next());
    }

    private static void nextHasTheLeastArrival() {
        CHECK.sentence("of several the one with the least arrival");
        TaskKernel x = new TaskKernel(8, 1, 0, 1);
        for (int t = 0; t < 8; t++) {
            x.spawn(0, 7);
        }
        x.kill(0);
        x.kill(5);
        due("spawn(0, 7)", 0, x.spawn(0, 7));
        due("spawn(0, 7)", 5, x.spawn(0, 7));
        dueOrder("the least arrival, not the least number", x, 1, 2, 3, 4, 6, 7, 0, 5);
    }

    private static void dueNew(String about, TaskKernel x, int t, int place, int priority) {
        int[] fields = {place, priority, 0, 0, 0, -1};
        due(about + ": state", 1, x.state(t));
        for (int which = 0; which < 6; which++) {
            due(about + ": task(" + t + ", " + which + ")", fields[which], x.task(t, which));
        }
        due(about + ": stack(" + t + ", 0)", NONE, x.stack(t, 0));
    }

    private static void begunTaskIsEmpty() {
        CHECK.sentence("A task that is begun (at a place, with a priority) becomes ready, with an empty stack and no frames.");
        TaskKernel x = new TaskKernel(2, 2, 0, 1);
        Words.load(x, 0, Words.push(7), Words.push(8), w(Words.CALL, 3), w(Words.CALL, 4), w(Words.CALL, 5), w(Words.CALL, 6),
            w(Words.JUMP, 6));
        Words.load(x, 10, Words.push(-3), w(Words.BEGIN, 62));
        x.spawn(0, 1);
        dueNew("begun by spawn", x, 0, 0, 1);
        x.run(6);
        due("a full stack", 2, x.task(0, 2));
        due("all frames", 4, x.task(0, 3));
        x.kill(0);
        x.spawn(63, 6);
        dueNew("begun again by spawn", x, 0, 63, 6);
        x.kill(0);
        x.spawn(0, 1);
        x.run(6);
        x.spawn(10, 7);
        x.kill(0);
        x.run(2);
        dueNew("begun again by op 18", x, 0, 62, 5);
        due("its number", 0, x.stack(1, 0));
    }

    /** Task 0 ready, 1 sleeping, 2 sending to queue 1, which is full, 3 receiving from queue 0. */
    private static TaskKernel oneOfEach() {
        TaskKernel x = new TaskKernel(6, 2, 2, 1);
        Words.load(x, 0, w(Words.JUMP, 0));
        Words.load(x, 10, Words.push(3), w(Words.SLEEP));
        Words.load(x, 20, Words.push(8), w(Words.SEND, 1), Words.push(9), w(Words.SEND, 1));
        Words.load(x, 30, w(Words.RECEIVE, 0));
        Words.load(x, 40, Words.push(2), w(Words.KILL));
        Words.load(x, 50, w(Words.RECEIVE, 1), w(Words.RECEIVE, 1));
        x.spawn(0, 1);
        x.spawn(10, 2);
        x.spawn(20, 2);
        x.spawn(30, 2);
        x.run(8);
        for (int t = 0; t < 4; t++) {
            due("state(" + t + ")", t + 1, x.state(t));
        }
        return x;
    }

    private static void endedTaskIsFree() {
        CHECK.sentence("When a task ENDS, it is free");
        for (int t = 0; t < 4; t++) {
            TaskKernel x = oneOfEach();
            CHECK.due("kill(" + t + ")", true, x.kill(t));
            due("state(" + t + ")", 0, x.state(t));
            for (int which = 0; which < 6; which++) {
                due("task(" + t + ", " + which + ")", NONE, x.task(t, which));
            }
            due("stack(" + t + ", 0)", NONE, x.stack(t, 0));
            for (int other = 0; other < 4; other++) {
                if (other != t) {
                    due("after kill(" + t + "): state(" + other + ")", other + 1, x.state(other));
                }
            }
            due("it is the least free one", t, x.spawn(60, 5));
            dueNew("begun again", x, t, 60, 5);
        }
    }

    private static void endedTaskWaitsNowhere() {
        CHECK.sentence("and waits nowhere any more");
        TaskKernel x = oneOfEach();
        x.kill(1);
        x.kill(2);
        x.kill(3);
        due("waiter(1, true, 0)", -1, x.waiter(1, true, 0));
        due("waiter(0, false, 0)", -1, x.waiter(0, false, 0));
        for (int i = 0; i < 4; i++) {
            due("tick()", 0, x.tick());
        }
        x = oneOfEach();
        x.kill(1);
        x.kill(2);
        x.kill(3);
        x.spawn(60, 0);
        x.spawn(60, 0);
        x.spawn(60, 0);
        due("begun again: waiter(1, true, 0)", -1, x.waiter(1, true, 0));
        due("begun again: waiter(0, false, 0)", -1, x.waiter(0, false, 0));
        for (int i = 0; i < 4; i++) {
            due("begun again: tick()", 0, x.tick());
        }
    }

    private static void sendersNumberIsGone() {
        CHECK.sentence("the number that it was sending is gone");
        TaskKernel x = oneOfEach();
        x.kill(2);
        due("what is in the queue stays", 8, x.queued(1, 0));
        x.spawn(50, 7);
        due("op 22", 32, x.step());
        due("it is received", 8, x.stack(2, 0));
        due("nothing comes behind it", 0, x.queue(1));
        due("op 22 once more", 36, x.step());
        TaskKernel y = oneOfEach();
        y.spawn(40, 6);
        due("op 25", 64, Probe.lastAnswer(y, 2));
        y.spawn(50, 7);
        y.step();
        due("ended by 25: nothing comes behind it", 0, y.queue(1));
    }

    private static void opIsTheLowFiveBits() {
        CHECK.sentence("its OP is w & 31");
        PROBE.dueTrap("the word -1 is op 31", 4, -1);
        PROBE.dueTrap("the greatest word is op 31", 4, MAX);
        PROBE.dueTrap("the word 26", 4, 26);
        PROBE.dueTrap("the word 25", 1, 25);
        int[] ends = {0, 32, -32, MIN};
        for (int word : ends) {
            TaskKernel x = Words.begun(word);
            due("the word " + word + " is op 0", 1, x.step());
            due("why(0)", 1, x.why(0));
        }
    }

    private static void numberHasASign() {
        CHECK.sentence("its NUMBER x is w >> 5 (with sign)");
        PROBE.dueStack("the word 1", new int[] {1}, 0);
        PROBE.dueStack("the word 33", new int[] {33}, 1);
        PROBE.dueStack("the word -31", new int[] {-31}, -1);
        PROBE.dueStack("the least number", new int[] {MIN + 1}, -67108864);
        PROBE.dueStack("the greatest number", new int[] {MAX - 30}, 67108863);
    }

    private static void placeIsOneFurtherFirst() {
        CHECK.sentence("The place is one further first.");
        TaskKernel x = Words.begun(w(Words.CALL, 5), w(Words.END), w(Words.END), w(Words.END), w(Words.END), w(Words.BACK));
        x.run(2);
        due("op 13 keeps the place behind its own", 1, x.task(0, 0));
        TaskKernel y = new TaskKernel(1, 1, 0, 1);
        Words.load(y, 63, w(Words.CALL, 5));
        Words.load(y, 5, w(Words.BACK));
        y.spawn(63, 0);
        y.run(2);
        due("op 14 to the place behind 63", 64, y.task(0, 0));
        due("it is ready there", 1, y.state(0));
        TaskKernel z = Words.begun(w(Words.JUMP, 0));
        z.step();
        due("a jump to itself", 0, z.task(0, 0));
    }

    private static void stepAtThePlace64() {
        CHECK.sentence("so is a step at the place 64");
        int[] passing = {Words.push(0), w(Words.YIELD), w(Words.PRIORITY, 3), w(Words.SELF), w(Words.CLOCK)};
        for (int word : passing) {
            TaskKernel x = new TaskKernel(1, 1, 0, 1);
            Words.load(x, 63, word);
            x.spawn(63, 0);
            due("a step at 63", 0, x.step());
            due("the place 64", 64, x.task(0, 0));
            due("ready there", 1, x.state(0));
            due("a step at 64", 10, x.step());
            due("why(0)", 4, x.why(0));
        }
        TaskKernel y = new TaskKernel(1, 1, 0, 1);
        Words.load(y, 63, w(Words.PRIORITY, 1));
        y.spawn(63, 0);
        due("run(64)", 2, y.run(64));
        TaskKernel z = new TaskKernel(1, 1, 1, 1);
        Words.load(z, 62, Words.push(1), w(Words.SLEEP));
        z.spawn(62, 0);
        z.run(2);
        due("asleep at 64", 2, z.state(0));
        z.tick();
        due("awake at 64", 10, z.step());
    }

    /** Words of which the last one ends in the trap, in a kernel with two queues. */
    private static int[] trapping(int trap) {
        int[][] words = {{w(Words.DROP)}, {w(Words.JUMP, 64)}, {Words.push(1), Words.push(0), w(Words.DIV)}, {w(31)},
            {w(Words.BACK)}, {w(Words.SEND, 2)}};
        return words[trap - 1];
    }

    private static void trapEndsTheTask() {
        CHECK.sentence("A TRAP ends the task");
        for (int trap = 1; trap <= 6; trap++) {
            int[] words = trapping(trap);
            TaskKernel x = new TaskKernel(3, 2, 2, 1);
            Words.load(x, 0, words);
            Words.load(x, 10, Words.push(6), w(Words.SLEEP));
            x.spawn(10, 2);
            x.spawn(0, 3);
            x.spawn(10, 1);
            due("step()", 16 + 8 + trap, Probe.lastAnswer(x, words.length));
            due("it is free", 0, x.state(1));
            due("why(1)", 2 + trap, x.why(1));
            due("state(0)", 1, x.state(0));
            due("state(2)", 1, x.state(2));
            due("why(0)", 0, x.why(0));
            due("the others go on", 4, x.run(64));
            due("the least free task", 1, x.spawn(0, 0));
        }
    }

    private static void whatGoesWrongEndsTheTaskAlone() {
        CHECK.sentence("what goes wrong ends the task alone");
        for (int trap = 1; trap <= 6; trap++) {
            int[] words = trapping(trap);
            TaskKernel x = oneOfEachState(words);
            due("the task that goes wrong", 4, x.spawn(0, 7));
            Probe.lastAnswer(x, words.length - 1);
            List<Integer> before = lookAtAllBut4(x);
            due("TRAP " + trap, 16 * 4 + 8 + trap, x.step());
            List<Integer> after = lookAtAllBut4(x);
            for (int i = 0; i < before.size(); i++) {
                due("TRAP " + trap + ": answer " + i + " about the others", before.get(i), after.get(i));
            }
            due("it is free", 0, x.state(4));
            due("the one that is ready is next", 0, x.next());
        }
    }

    /** Task 0 is ready, 1 sleeps, 2 is sending to a full queue 0 and 3 receiving from queue 1; the words stand at 0. */
    private static TaskKernel oneOfEachState(int... words) {
        TaskKernel x = new TaskKernel(5, 2, 2, 1);
        Words.load(x, 0, words);
        Words.load(x, 10, w(Words.SELF), w(Words.CALL, 12), w(Words.YIELD), w(Words.JUMP, 12));
        Words.load(x, 20, w(Words.SELF), w(Words.EMIT), w(Words.SELF), Words.push(9), w(Words.SLEEP));
        Words.load(x, 30, w(Words.SELF), Words.push(5), w(Words.STORE), w(Words.SELF), w(Words.SEND, 0), w(Words.JUMP, 33));
        Words.load(x, 40, w(Words.SELF), w(Words.RECEIVE, 1));
        x.spawn(10, 1);
        x.spawn(20, 2);
        x.spawn(30, 3);
        x.spawn(40, 4);
        x.run(32);
        for (int t = 0; t < 4; t++) {
            due("state(" + t + ")", t + 1, x.state(t));
        }
        return x;
    }

    private static List<Integer> lookAtAllBut4(TaskKernel x) {
        List<Integer> seen = new ArrayList<>();
        for (int t = 0; t < 4; t++) {
            seen.addAll(Look.atTask(x, t, 2));
        }
        seen.addAll(Look.atQueue(x, 0, 1));
        seen.addAll(Look.atQueue(x, 1, 1));
        seen.addAll(Look.atTheRest(x));
        return seen;
    }

    private static void whatWasDoneBeforeATrapStays() {
        CHECK.sentence("what the step did before stays done");
        TaskKernel x = new TaskKernel(3, 2, 1, 2);
        Words.load(x, 0, Words.push(5), w(Words.EMIT), Words.push(6), Words.push(2), w(Words.STORE), Words.push(7),
            w(Words.SEND, 0), Words.push(4), w(Words.BEGIN, 40), w(Words.KILL), w(Words.DIV));
        x.spawn(0, 7);
        due("all its steps", 11, x.run(64));
        due("why(0)", 3, x.why(0));
        due("what it emitted", 5, x.out(0));
        due("what it stored", 6, x.memory(2));
        due("what it sent", 7, x.queued(0, 0));
        due("the task that it began and killed", 2, x.why(1));
    }

    private static void objectIsUsedFor512Calls() {
        CHECK.sentence("An object is used for at most 512 calls after it has been made");
        TaskKernel x = new TaskKernel(1, 2, 0, 1);
        Words.load(x, 0, w(Words.SELF), w(Words.EMIT), w(Words.YIELD), w(Words.JUMP, 0));
        x.spawn(0, 0);
        for (int call = 6; call <= 511; call++) {
            due("call " + call + ": run(64)", 64, x.run(64));
        }
        due("call 512: emitted()", 506 * 16, x.emitted());
        TaskKernel y = new TaskKernel(1, 2, 0, 1);
        Words.load(y, 0, Words.push(508), w(Words.SLEEP));
        y.spawn(0, 0);
        y.run(2);
        for (int call = 5; call <= 511; call++) {
            due("call " + call + ": tick()", 0, y.tick());
        }
        due("call 512: tick()", 1, y.tick());
    }
}
