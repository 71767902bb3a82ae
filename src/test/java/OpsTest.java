/** The ops 0 to 31 in a STEP: what they take and put, their traps, and the order in which they look and take. */
public final class OpsTest {
    private static final int NONE = TaskKernel.NONE;
    private static final Check CHECK = new Check("OpsTest");
    private static final Probe PROBE = new Probe(CHECK);

    public static void main(String[] args) {
        wordsAndPlaces();
        puts();
        arithmetic();
        lessThan();
        copyDropSwap();
        memory();
        jumps();
        frames();
        yieldAndPriority();
        beginning();
        sleeping();
        selfAndClock();
        killing();
        noSuchOp();
        emptyStacks();
        fullStacks();
        CHECK.finish();
    }

    private static void due(String call, long want, long got) {
        CHECK.due(call, want, got);
    }

    private static int w(int op, int x) {
        return Words.word(op, x);
    }

    private static int w(int op) {
        return Words.word(op, 0);
    }

    private static int[] two(int lower, int upper, int op) {
        return new int[] {Words.push(lower), Words.push(upper), w(op)};
    }

    private static void wordsAndPlaces() {
        TaskKernel x = new TaskKernel(2, 4, 0, 1);
        Words.load(x, 62, Words.push(1), Words.push(2));
        x.spawn(62, 0);
        due("place 62: step()", 0, x.step());
        due("the place is one further", 63, x.task(0, 0));
        due("place 63: step()", 0, x.step());
        due("the place behind the code", 64, x.task(0, 0));
        due("it is ready there", 1, x.state(0));
        due("place 64: step()", 8 + 2, x.step());
        due("place 64: why(0)", 4, x.why(0));
        PROBE.dueStack("the number has a sign", new int[] {1 | -1 << 5, 1 | 1 << 31, 1 | 0x7fffffe0}, 0x3ffffff, -67108864, -1);
        TaskKernel y = Words.begun(w(Words.END, 55));
        due("op 0 with a number", 1, y.step());
        due("op 0: why(0)", 1, y.why(0));
    }

    private static void puts() {
        PROBE.dueStack("op 1", new int[] {Words.push(3), Words.push(-4)}, -4, 3);
        PROBE.dueTrapWith(2, "op 1 on a full stack", 1, Words.push(1), Words.push(1), Words.push(1));
    }

    private static void arithmetic() {
        PROBE.dueStack("op 2", two(7, 5, Words.ADD), 12);
        PROBE.dueStack("op 3", two(7, 5, Words.SUB), 2);
        PROBE.dueStack("op 4", two(7, -5, Words.MUL), -35);
        PROBE.dueStack("op 5", two(7, 2, Words.DIV), 3);
        PROBE.dueStack("op 5 is cut", two(-7, 2, Words.DIV), -3);
        PROBE.dueStack("op 5 is cut", two(7, -2, Words.DIV), -3);
        PROBE.dueStack("op 5 of 0", two(0, -2, Words.DIV), 0);
        PROBE.dueTrap("division by 0", 3, two(7, 0, Words.DIV));
        PROBE.dueTrap("division of 0 by 0", 3, two(0, 0, Words.DIV));
        PROBE.dueTrap("division takes both before it looks", 1, Words.push(0), w(Words.DIV));
        int[] greatest = {Words.push(1 << 16), Words.push(1 << 15), w(Words.MUL)};
        PROBE.dueStack("op 4 wraps", greatest, Integer.MIN_VALUE);
        PROBE.dueStack("op 4 wraps", new int[] {Words.push(1 << 20), w(Words.DUP), w(Words.MUL)}, 0);
        PROBE.dueStack("op 3 wraps", new int[] {greatest[0], greatest[1], greatest[2], Words.push(1), w(Words.SUB)}, Integer.MAX_VALUE);
        PROBE.dueStack("op 2 wraps", new int[] {greatest[0], greatest[1], greatest[2], w(Words.DUP), w(Words.ADD)}, 0);
        PROBE.dueStack("the least number by -1", new int[] {greatest[0], greatest[1], greatest[2], Words.push(-1), w(Words.DIV)},
            Integer.MIN_VALUE);
        PROBE.dueStack("what lies below stays", new int[] {Words.push(9), Words.push(7), Words.push(5), w(Words.SUB)}, 2, 9);
    }

    private static void lessThan() {
        PROBE.dueStack("1 < 2", two(1, 2, Words.LESS), 1);
        PROBE.dueStack("2 < 1", two(2, 1, Words.LESS), 0);
        PROBE.dueStack("2 < 2", two(2, 2, Words.LESS), 0);
        PROBE.dueStack("-2 < 1", two(-2, 1, Words.LESS), 1);
        int[] apart = {Words.push(1 << 16), Words.push(1 << 15), w(Words.MUL), Words.push(1), w(Words.LESS)};
        PROBE.dueStack("the least number is less", apart, 1);
    }

    private static void copyDropSwap() {
        PROBE.dueStack("op 6", new int[] {Words.push(4), Words.push(5), w(Words.DUP)}, 5, 5, 4);
        PROBE.dueStack("op 7", new int[] {Words.push(4), Words.push(5), w(Words.DROP)}, 4);
        PROBE.dueStack("op 8", new int[] {Words.push(3), Words.push(4), Words.push(5), w(Words.SWAP)}, 4, 5, 3);
    }

    private static void memory() {
        PROBE.dueStack("op 9", new int[] {Words.push(15), w(Words.LOAD)}, 0);
        PROBE.dueStack("op 10 and 9", new int[] {Words.push(44), Words.push(15), w(Words.STORE), Words.push(15), w(Words.LOAD)}, 44);
        PROBE.dueTrap("op 9 at 16", 2, Words.push(16), w(Words.LOAD));
        PROBE.dueTrap("op 9 at -1", 2, Words.push(-1), w(Words.LOAD));
        PROBE.dueTrap("op 10 at 16", 2, Words.push(1), Words.push(16), w(Words.STORE));
        PROBE.dueTrap("op 10 at -1", 2, Words.push(1), Words.push(-1), w(Words.STORE));
        PROBE.dueTrap("op 10 looks at the place before it takes a", 2, Words.push(16), w(Words.STORE));
        PROBE.dueTrap("op 10 without a", 1, Words.push(15), w(Words.STORE));
        TaskKernel x = Words.begun(Words.push(5), w(Words.STORE));
        due("op 10 without a", 9, Probe.lastAnswer(x, 2));
        due("op 10 without a changes no memory", 0, x.memory(5));
    }

    private static void jumps() {
        TaskKernel x = Words.begun(w(Words.JUMP, 63));
        due("op 11: step()", 0, x.step());
        due("op 11: place", 63, x.task(0, 0));
        PROBE.dueTrap("op 11 to 64", 2, w(Words.JUMP, 64));
        PROBE.dueTrap("op 11 to -1", 2, w(Words.JUMP, -1));
        x = Words.begun(Words.push(0), w(Words.JUMP_ZERO, 9));
        due("op 12 with 0: step()", 0, Probe.lastAnswer(x, 2));
        due("op 12 with 0: place", 9, x.task(0, 0));
        due("op 12 takes a", 0, x.task(0, 2));
        x = Words.begun(Words.push(-1), w(Words.JUMP_ZERO, 64));
        due("op 12 with -1: step()", 0, Probe.lastAnswer(x, 2));
        due("op 12 with -1: place", 2, x.task(0, 0));
        due("op 12 takes a", 0, x.task(0, 2));
        PROBE.dueTrap("op 12 to 64", 2, Words.push(0), w(Words.JUMP_ZERO, 64));
        PROBE.dueTrap("op 12 to -1", 2, Words.push(0), w(Words.JUMP_ZERO, -1));
        PROBE.dueTrap("op 12 takes a before it jumps", 1, w(Words.JUMP_ZERO, 64));
    }

    private static void frames() {
        TaskKernel x = Words.begun(w(Words.CALL, 2), w(Words.END), w(Words.CALL, 4), w(Words.END), w(Words.BACK));
        x.step();
        due("op 13: place", 2, x.task(0, 0));
        due("op 13: frames", 1, x.task(0, 3));
        x.run(2);
        due("op 14: place", 3, x.task(0, 0));
        due("op 14: frames", 1, x.task(0, 3));
        PROBE.dueTrap("op 13 to 64", 2, w(Words.CALL, 64));
        PROBE.dueTrap("op 13 to -1", 2, w(Words.CALL, -1));
        PROBE.dueTrap("a fifth frame", 5, w(Words.CALL, 1), w(Words.CALL, 2), w(Words.CALL, 3), w(Words.CALL, 4), w(Words.CALL, 5));
        PROBE.dueTrap("op 13 looks at the place before the frames", 2, w(Words.CALL, 1), w(Words.CALL, 2), w(Words.CALL, 3),
            w(Words.CALL, 4), w(Words.CALL, 64));
        PROBE.dueTrap("op 14 without a frame", 5, w(Words.BACK));
        PROBE.dueTrap("op 14 takes the frame away", 5, w(Words.CALL, 2), w(Words.BACK), w(Words.BACK));
        x = new TaskKernel(1, 1, 0, 1);
        Words.load(x, 63, w(Words.CALL, 5));
        Words.load(x, 5, w(Words.BACK));
        x.spawn(63, 0);
        due("a frame with the place 64", 0, Probe.lastAnswer(x, 2));
        due("the place 64", 64, x.task(0, 0));
        due("a step there", 10, x.step());
    }

    private static void yieldAndPriority() {
        TaskKernel x = new TaskKernel(3, 1, 0, 1);
        Words.load(x, 0, w(Words.YIELD), w(Words.PRIORITY, 13), w(Words.PRIORITY, -1), w(Words.PRIORITY, 2));
        x.spawn(0, 2);
        x.spawn(0, 2);
        x.spawn(0, 1);
        due("op 16", 0, x.step());
        due("op 16 makes way for the same priority alone", 16, x.step());
        due("op 17", 0, x.step());
        due("op 17: x & 7", 5, x.task(0, 1));
        due("op 17 with -1", 0, x.step());
        due("op 17 with -1: x & 7", 7, x.task(0, 1));
        due("op 17 with 2", 0, x.step());
        due("op 17 keeps the arrival", 0, x.next());
        due("op 17 keeps the arrival: place", 4, x.task(0, 0));
    }

    private static void beginning() {
        TaskKernel x = new TaskKernel(3, 2, 0, 1);
        Words.load(x, 0, Words.push(13), w(Words.BEGIN, 63), Words.push(-1), w(Words.BEGIN, 9), Words.push(0), w(Words.BEGIN, 0));
        x.spawn(0, 7);
        due("op 18", 0, Probe.lastAnswer(x, 2));
        due("op 18 puts its number", 1, x.stack(0, 0));
        due("op 18: state", 1, x.state(1));
        due("op 18: place", 63, x.task(1, 0));
        due("op 18: priority p & 7", 5, x.task(1, 1));
        due("op 18: empty stack", 0, x.task(1, 2));
        due("op 18 with -1", 0, Probe.lastAnswer(x, 2));
        due("op 18 with -1: priority", 7, x.task(2, 1));
        due("the one that begins arrives later", 0, x.next());
        due("a full stack has room for what 18 puts", 2, x.task(0, 2));
        x.kill(0);
        x.spawn(4, 7);
        x.kill(2);
        x.kill(1);
        x.spawn(0, 0);
        x.spawn(0, 0);
        due("op 18 when none is free", 0, Probe.lastAnswer(x, 2));
        due("op 18 when none is free puts -1", -1, x.stack(0, 0));
        PROBE.dueTrap("op 18 at 64", 2, Words.push(1), w(Words.BEGIN, 64));
        PROBE.dueTrap("op 18 at -1", 2, Words.push(1), w(Words.BEGIN, -1));
        PROBE.dueTrap("op 18 looks at the place before it takes", 2, w(Words.BEGIN, 64));
        PROBE.dueTrap("op 18 without a number", 1, w(Words.BEGIN, 5));
        x = Words.begun(w(Words.BEGIN, 5));
        x.step();
        due("op 18 without a number begins none", 0, x.state(1));
    }

    private static void sleeping() {
        int[] asked = {1, 999, 1000, 1001, 60000000};
        int[] wakes = {4, 1002, 1003, 1003, 1003};
        for (int i = 0; i < asked.length; i++) {
            TaskKernel x = Words.begun(Words.push(asked[i]), w(Words.SLEEP));
            x.tick();
            x.tick();
            x.tick();
            due("op 20 with " + asked[i], 2, Probe.lastAnswer(x, 2));
            due("op 20 with " + asked[i] + ": wakes", wakes[i], x.task(0, 4));
            due("op 20 takes n", 0, x.task(0, 2));
        }
        for (int n = -1; n <= 0; n++) {
            TaskKernel x = Words.begun(Words.push(n), w(Words.SLEEP));
            x.spawn(0, 3);
            due("op 20 with " + n, 0, Probe.lastAnswer(x, 2));
            due("op 20 with " + n + ": state", 1, x.state(0));
            due("op 20 with " + n + " keeps the arrival", 0, x.next());
        }
        TaskKernel x = Words.begun(Words.push(1), w(Words.SLEEP));
        x.run(2);
        due("it wakes with the next tick", 1, x.tick());
        due("it goes on behind the word", 2, x.task(0, 0));
    }

    private static void selfAndClock() {
        TaskKernel x = new TaskKernel(4, 4, 0, 1);
        Words.load(x, 0, w(Words.SELF), w(Words.CLOCK), w(Words.EMIT));
        x.tick();
        x.tick();
        x.tick();
        x.spawn(0, 0);
        x.spawn(0, 0);
        x.spawn(0, 4);
        x.run(2);
        due("op 24", 3, x.stack(2, 0));
        due("op 23", 2, x.stack(2, 1));
        x.step();
        due("op 15", 3, x.out(0));
        due("op 15 takes a", 2, x.stack(2, 0));
    }

    private static void killing() {
        TaskKernel x = Words.begun(Words.push(1), w(Words.KILL), Words.push(1), w(Words.KILL), Words.push(4), w(Words.KILL),
            Words.push(-1), w(Words.KILL), Words.push(0), w(Words.KILL));
        x.spawn(0, 0);
        due("op 25", 0, Probe.lastAnswer(x, 2));
        due("op 25 of a live task puts 1", 1, x.stack(0, 0));
        due("op 25: state", 0, x.state(1));
        due("op 25: why", 2, x.why(1));
        x.run(2);
        due("op 25 of a free task puts 0", 0, x.stack(0, 0));
        x.run(2);
        due("op 25 of task 4 puts 0", 0, x.stack(0, 0));
        x.run(2);
        due("op 25 of task -1 puts 0", 0, x.stack(0, 0));
        due("op 25 takes k", 4, x.task(0, 2));
        due("op 25 of itself", 1, Probe.lastAnswer(x, 2));
        due("op 25 of itself: state", 0, x.state(0));
        due("op 25 of itself: why", 2, x.why(0));
        due("op 25 of itself: task", NONE, x.task(0, 2));
    }

    private static void noSuchOp() {
        for (int op = 26; op < 32; op++) {
            PROBE.dueTrap("op " + op, 4, w(op, 0));
            PROBE.dueTrap("op " + op + " with a number", 4, w(op, -3));
        }
    }

    private static void emptyStacks() {
        int[] takesOne = {Words.DUP, Words.DROP, Words.LOAD, Words.STORE, Words.JUMP_ZERO, Words.EMIT, Words.BEGIN, Words.SLEEP,
            Words.SEND, Words.KILL};
        for (int op : takesOne) {
            PROBE.dueTrap("op " + op + " on an empty stack", 1, w(op));
        }
        int[] takesTwo = {Words.ADD, Words.SUB, Words.MUL, Words.DIV, Words.SWAP, Words.LESS, Words.STORE};
        for (int op : takesTwo) {
            PROBE.dueTrap("op " + op + " on an empty stack", 1, w(op));
            PROBE.dueTrap("op " + op + " on one number", 1, Words.push(1), w(op));
        }
        TaskKernel x = Words.begun(w(Words.EMIT));
        x.step();
        due("a trap emits nothing", 0, x.emitted());
    }

    private static void fullStacks() {
        int[] puts = {Words.PUSH, Words.DUP, Words.RECEIVE, Words.SELF, Words.CLOCK};
        for (int op : puts) {
            PROBE.dueTrapWith(1, "op " + op + " on a full stack", 1, Words.push(1), w(op));
            TaskKernel x = Words.begunWith(2, Words.push(1), w(op));
            int answer = Probe.lastAnswer(x, 2);
            due("op " + op + " with room for one", op == Words.RECEIVE ? 4 : 0, answer);
        }
        int[] keepsTheHeight = {Words.LOAD, Words.BEGIN, Words.KILL};
        for (int op : keepsTheHeight) {
            TaskKernel x = Words.begunWith(1, Words.push(2), w(op));
            due("op " + op + " puts where it took", 0, Probe.lastAnswer(x, 2));
            due("op " + op + ": height", 1, x.task(0, 2));
        }
        TaskKernel x = Words.begunWith(2, Words.push(2), Words.push(3), w(Words.SWAP));
        due("op 8 on a full stack", 0, Probe.lastAnswer(x, 3));
    }
}
