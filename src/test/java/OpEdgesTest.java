/** The edges of each op 0 to 25, of each TRAP 1 to 6, and of the order in which an op looks and takes. */
public final class OpEdgesTest {
    private static final int MIN = Integer.MIN_VALUE;
    private static final int MAX = Integer.MAX_VALUE;

    /** The least and the greatest number that stand in a word. */
    private static final int LEAST_X = -67108864;
    private static final int GREATEST_X = 67108863;
    private static final int[] NO_PLACES = {LEAST_X, -64, -1, 64, 65, 128, GREATEST_X};
    private static final int[] EIGHT = {Words.push(8)};
    private static final Check CHECK = new Check("OpEdgesTest");
    private static final Probe PROBE = new Probe(CHECK);

    public static void main(String[] args) {
        takesTheFirstNamedFirst();
        op0();
        op1();
        op2();
        op3();
        op4();
        op5();
        op6();
        op7();
        op8();
        op9();
        op10();
        op11();
        op12();
        op13();
        op14();
        op15();
        op16();
        op17();
        op18();
        op18WhenNoneIsFree();
        op19();
        op20ThatDoesNotSleep();
        op20ThatSleeps();
        op20AtMost1000();
        op23();
        op24();
        op25();
        op25OfNone();
        op25OfItself();
        trap1OfAnEmptyStack();
        trap1OfAFullStack();
        trap2OfTheMemory();
        trap2OfAJump();
        trap2OnlyOfAJumpThatIsMade();
        trap3();
        trap4();
        trap5();
        trap6();
        op18LooksBeforeItTakes();
        ops21And22LookBeforeTheyTake();
        op10LooksBeforeItTakes();
        op13LooksBeforeTheFrames();
        op5TakesBothFirst();
        CHECK.finish();
    }

    private static void due(String call, long want, long got) {
        CHECK.due(call, want, got);
    }

    private static int w(int op, int x) {
        return Words.word(op, x);
    }

    private static int w(int op) {
        return Words.word(op, 0);
    }

    /** An op on two numbers, the upper one put last, leaves one, and what lies below them. */
    private static void dueOfTwo(int op, int lower, int upper, int left) {
        String about = "op " + op + " on " + lower + " and " + upper;
        PROBE.dueStack(about, Words.join(EIGHT, Words.number(lower), Words.number(upper), new int[] {w(op)}), left, 8);
    }

    private static void takesTheFirstNamedFirst() {
        CHECK.sentence("An op TAKES numbers from the top of the stack (the first one named is taken first) and PUTS numbers there.");
        dueOfTwo(Words.SUB, 9, 4, 5);
        dueOfTwo(Words.DIV, 9, 4, 2);
        dueOfTwo(Words.LESS, 9, 4, 0);
        dueOfTwo(Words.LESS, 4, 9, 1);
        PROBE.dueStack("op 8 on 9 and 4", new int[] {Words.push(8), Words.push(9), Words.push(4), w(Words.SWAP)}, 9, 4, 8);
        TaskKernel x = Words.begun(Words.push(9), Words.push(4), w(Words.STORE));
        x.run(3);
        due("op 10 on 9 and 4: memory(4)", 9, x.memory(4));
        due("op 10 on 9 and 4: memory(9)", 0, x.memory(9));
    }

    private static void op0() {
        CHECK.sentence("0: the task ends.");
        TaskKernel x = Words.begun(w(Words.END));
        due("op 0", 1, x.step());
        due("state(0)", 0, x.state(0));
        due("why(0)", 1, x.why(0));
        due("op 0 on a full stack", 1, Probe.lastAnswer(Words.begunWith(1, Words.push(1), w(Words.END)), 2));
    }

    private static void op1() {
        CHECK.sentence("1: puts x.");
        int[] numbers = {LEAST_X, -1, 0, 1, GREATEST_X};
        for (int x : numbers) {
            PROBE.dueStackWith(1, "op 1 with " + x, new int[] {Words.push(x)}, x);
        }
    }

    private static void op2() {
        CHECK.sentence("takes b, takes a, puts a + b (in ints that wrap)");
        dueOfTwo(Words.ADD, MAX, 1, MIN);
        dueOfTwo(Words.ADD, MIN, -1, MAX);
        dueOfTwo(Words.ADD, MAX, MAX, -2);
        dueOfTwo(Words.ADD, MIN, MIN, 0);
        dueOfTwo(Words.ADD, MIN, MAX, -1);
    }

    private static void op3() {
        CHECK.sentence("takes b, takes a, puts a - b (in ints that wrap)");
        dueOfTwo(Words.SUB, MIN, 1, MAX);
        dueOfTwo(Words.SUB, MAX, -1, MIN);
        dueOfTwo(Words.SUB, 0, MIN, MIN);
        dueOfTwo(Words.SUB, MIN, MIN, 0);
        dueOfTwo(Words.SUB, MIN, MAX, 1);
        dueOfTwo(Words.SUB, 0, 1, -1);
    }

    private static void op4() {
        CHECK.sentence("takes b, takes a, puts a * b (in ints that wrap)");
        dueOfTwo(Words.MUL, MIN, -1, MIN);
        dueOfTwo(Words.MUL, MIN, MIN, 0);
        dueOfTwo(Words.MUL, MAX, MAX, 1);
        dueOfTwo(Words.MUL, MAX, 2, -2);
        dueOfTwo(Words.MUL, 65536, 65536, 0);
        dueOfTwo(Words.MUL, 65535, 65537, -1);
        dueOfTwo(Words.MUL, 46341, 46341, -2147479015);
    }

    private static void op5() {
        CHECK.sentence("takes b, takes a, puts a / b (cut)");
        dueOfTwo(Words.DIV, -1, 2, 0);
        dueOfTwo(Words.DIV, 1, -2, 0);
        dueOfTwo(Words.DIV, -7, 2, -3);
        dueOfTwo(Words.DIV, 7, -2, -3);
        dueOfTwo(Words.DIV, -7, -2, 3);
        dueOfTwo(Words.DIV, MIN, -1, MIN);
        dueOfTwo(Words.DIV, MIN, 1, MIN);
        dueOfTwo(Words.DIV, MIN, MAX, -1);
        dueOfTwo(Words.DIV, MAX, MIN, 0);
        dueOfTwo(Words.DIV, MIN, MIN, 1);
        dueOfTwo(Words.DIV, 0, MIN, 0);
    }

    private static void op6() {
        CHECK.sentence("6: takes a, puts a, puts a.");
        PROBE.dueStackWith(2, "op 6 fills the stack", new int[] {Words.push(5), w(Words.DUP)}, 5, 5);
        PROBE.dueTrapWith(1, "op 6 with room for one of the two", 1, Words.push(5), w(Words.DUP));
        PROBE.dueTrap("op 6 on an empty stack", 1, w(Words.DUP));
    }

    private static void op7() {
        CHECK.sentence("7: takes a.");
        PROBE.dueStackWith(1, "op 7 empties the stack", new int[] {Words.push(5), w(Words.DROP)});
        PROBE.dueTrap("op 7 on an empty stack", 1, w(Words.DROP));
        PROBE.dueTrap("op 7 once too often", 1, Words.push(5), w(Words.DROP), w(Words.DROP));
    }

    private static void op8() {
        CHECK.sentence("8: takes b, takes a, puts b, puts a.");
        PROBE.dueStackWith(2, "op 8 on a full stack", new int[] {Words.push(5), Words.push(6), w(Words.SWAP)}, 5, 6);
        PROBE.dueTrap("op 8 on one number", 1, Words.push(5), w(Words.SWAP));
        PROBE.dueTrap("op 8 on an empty stack", 1, w(Words.SWAP));
    }

    private static void op9() {
        CHECK.sentence("9: takes a place of the memory, puts what is there.");
        for (int a = 0; a <= 15; a += 15) {
            int[] words = {Words.push(-9), Words.push(a), w(Words.STORE), Words.push(a), w(Words.LOAD)};
            PROBE.dueStackWith(2, "op 9 at " + a, words, -9);
        }
        PROBE.dueStackWith(1, "op 9 on a full stack", new int[] {Words.push(15), w(Words.LOAD)}, 0);
        PROBE.dueTrap("op 9 on an empty stack", 1, w(Words.LOAD));
    }

    private static void op10() {
        CHECK.sentence("10: takes a place of the memory, takes a, which is there then.");
        int[] numbers = {MIN, -1, 0, MAX};
        for (int a = 0; a <= 15; a += 15) {
            for (int number : numbers) {
                int[] words = Words.join(Words.number(number), new int[] {Words.push(a), w(Words.STORE)});
                TaskKernel x = Words.begunWith(2, words);
                due("op 10 at " + a, 0, Probe.lastAnswer(x, words.length));
                due("memory(" + a + ")", number, x.memory(a));
                due("op 10 takes both", 0, x.task(0, 2));
            }
        }
        TaskKernel y = Words.begun(Words.push(0), w(Words.STORE));
        due("op 10 on one number", 9, Probe.lastAnswer(y, 2));
        due("nothing is stored", 0, y.memory(0));
        PROBE.dueTrap("op 10 on an empty stack", 1, w(Words.STORE));
    }

    private static void op11() {
        CHECK.sentence("11: its place is x.");
        int[] places = {0, 1, 62, 63};
        for (int place : places) {
            TaskKernel x = Words.begun(w(Words.JUMP, place));
            due("op 11 to " + place, 0, x.step());
            due("its place", place, x.task(0, 0));
        }
    }

    private static void op12() {
        CHECK.sentence("12: takes a; if a is 0, its place is x.");
        int[] numbers = {MIN, -1, 0, 1, MAX};
        for (int number : numbers) {
            int[] words = Words.join(Words.number(number), new int[] {w(Words.JUMP_ZERO, 63)});
            TaskKernel x = Words.begun(words);
            due("op 12 with " + number, 0, Probe.lastAnswer(x, words.length));
            due("its place", number == 0 ? 63 : words.length, x.task(0, 0));
            due("it takes a", 0, x.task(0, 2));
        }
        PROBE.dueTrap("op 12 on an empty stack", 1, w(Words.JUMP_ZERO, 0));
    }

    private static void op13() {
        CHECK.sentence("13: its place is put behind its frames, its place is x.");
        TaskKernel x = new TaskKernel(1, 1, 0, 1);
        Words.load(x, 63, w(Words.CALL, 0));
        Words.load(x, 0, w(Words.CALL, 63));
        x.spawn(0, 0);
        for (int frames = 1; frames <= 4; frames++) {
            due("op 13", 0, x.step());
            due("its place", frames % 2 == 0 ? 0 : 63, x.task(0, 0));
            due("its frames", frames, x.task(0, 3));
        }
        due("op 13 with four frames", 13, x.step());
    }

    private static void op14() {
        CHECK.sentence("14: its place is the last frame, which is taken away.");
        TaskKernel x = new TaskKernel(1, 1, 0, 1);
        Words.load(x, 0, w(Words.CALL, 10), w(Words.BACK));
        Words.load(x, 10, w(Words.CALL, 20), w(Words.BACK));
        Words.load(x, 20, w(Words.CALL, 30), w(Words.BACK));
        Words.load(x, 30, w(Words.CALL, 40), w(Words.BACK));
        Words.load(x, 40, w(Words.BACK));
        x.spawn(0, 0);
        x.run(4);
        for (int frames = 3; frames >= 0; frames--) {
            due("op 14", 0, x.step());
            due("the last frame first", 10 * frames + 1, x.task(0, 0));
            due("it is taken away", frames, x.task(0, 3));
        }
        due("none to go back to", 13, x.step());
    }

    private static void op15() {
        CHECK.sentence("15: takes a, which is EMITTED.");
        int[] numbers = {MIN, -1, 0, MAX};
        for (int number : numbers) {
            int[] words = Words.join(Words.number(number), new int[] {w(Words.EMIT)});
            TaskKernel x = Words.begun(words);
            due("op 15", 0, Probe.lastAnswer(x, words.length));
            due("out(0)", number, x.out(0));
            due("emitted()", 1, x.emitted());
            due("it takes a", 0, x.task(0, 2));
        }
        TaskKernel y = Words.begun(w(Words.EMIT));
        due("op 15 on an empty stack", 9, y.step());
        due("nothing is emitted", 0, y.emitted());
        due("out(0)", TaskKernel.NONE, y.out(0));
    }

    private static void op16() {
        CHECK.sentence("16: it becomes ready (anew).");
        TaskKernel x = new TaskKernel(4, 1, 0, 1);
        Words.load(x, 0, w(Words.YIELD), w(Words.YIELD), w(Words.YIELD));
        x.spawn(0, 3);
        due("op 16 of the only one", 0, x.step());
        due("it is next again", 0, x.next());
        x.spawn(10, 2);
        due("op 16 with one of less priority", 0, x.step());
        due("it is next again", 0, x.next());
        x.spawn(10, 3);
        x.spawn(10, 3);
        due("op 16 with two of its priority", 0, x.step());
        due("it goes behind them", 2, x.next());
        x.kill(2);
        due("behind both", 3, x.next());
        x.kill(3);
        due("but before those of less priority", 0, x.next());
    }

    private static void op17() {
        CHECK.sentence("17: its priority is x & 7.");
        int[] numbers = {LEAST_X, -8, -1, 0, 7, 8, 15, GREATEST_X};
        int[] priorities = {0, 0, 7, 0, 7, 0, 7, 7};
        for (int i = 0; i < numbers.length; i++) {
            TaskKernel x = Words.begun(w(Words.PRIORITY, numbers[i]));
            due("op 17 with " + numbers[i], 0, x.step());
            due("its priority", priorities[i], x.task(0, 1));
        }
        TaskKernel y = Words.begun(w(Words.PRIORITY, 3), w(Words.PRIORITY, 2));
        y.spawn(10, 3);
        y.spawn(10, 2);
        y.step();
        due("it keeps its arrival", 0, y.next());
        y.step();
        due("another one has more priority now", 1, y.next());
        y.kill(1);
        due("it arrived before the others of its new priority", 0, y.next());
    }

    private static void op18() {
        CHECK.sentence("18: takes p; the least free task begins at the place x with the priority p & 7; puts its number");
        int[] numbers = {MIN, -8, -1, 0, 7, 8, MAX};
        int[] priorities = {0, 0, 7, 0, 7, 0, 7};
        for (int place = 0; place <= 63; place += 63) {
            for (int i = 0; i < numbers.length; i++) {
                int[] words = Words.join(Words.number(numbers[i]), new int[] {w(Words.BEGIN, place)});
                TaskKernel x = Words.begunWith(2, words);
                due("op 18 with " + numbers[i], 0, Probe.lastAnswer(x, words.length));
                due("it puts the number", 1, x.stack(0, 0));
                due("it took p", 1, x.task(0, 2));
                due("the place", place, x.task(1, 0));
                due("the priority", priorities[i], x.task(1, 1));
            }
        }
        TaskKernel y = new TaskKernel(8, 1, 0, 1);
        Words.load(y, 0, Words.push(0), w(Words.BEGIN, 10));
        for (int t = 0; t < 7; t++) {
            y.spawn(0, 7);
        }
        y.kill(2);
        y.kill(5);
        due("op 18 on a full stack", 0, Probe.lastAnswer(y, 2));
        due("the least free one", 2, y.stack(0, 0));
        y.kill(0);
        y.kill(2);
        due("op 18 of task 1", 16, Probe.lastAnswer(y, 2));
        due("task 0 is the least free one", 0, y.stack(1, 0));
    }

    private static void op18WhenNoneIsFree() {
        CHECK.sentence("or -1 when none is free");
        TaskKernel x = new TaskKernel(8, 1, 0, 1);
        Words.load(x, 0, Words.push(0), w(Words.BEGIN, 10), w(Words.DROP), w(Words.JUMP, 0));
        x.spawn(0, 7);
        for (int t = 1; t < 8; t++) {
            due("op 18 with " + t + " live", 0, Probe.lastAnswer(x, 2));
            due("it puts the number", t, x.stack(0, 0));
            x.run(2);
        }
        due("op 18 with 8 live", 0, Probe.lastAnswer(x, 2));
        due("it puts -1", -1, x.stack(0, 0));
        for (int t = 1; t < 8; t++) {
            due("the others are as they were", 10, x.task(t, 0));
        }
        TaskKernel y = new TaskKernel(1, 1, 0, 1);
        Words.load(y, 0, Words.push(5), w(Words.BEGIN, 10));
        y.spawn(0, 0);
        due("op 18 of the only task", 0, Probe.lastAnswer(y, 2));
        due("it puts -1", -1, y.stack(0, 0));
        due("its place", 2, y.task(0, 0));
        due("its priority", 0, y.task(0, 1));
    }

    private static void op19() {
        CHECK.sentence("19: takes a, takes b, puts 1 if b is less than a, else 0.");
        dueOfTwo(Words.LESS, 4, 5, 1);
        dueOfTwo(Words.LESS, 5, 5, 0);
        dueOfTwo(Words.LESS, 6, 5, 0);
        dueOfTwo(Words.LESS, -1, 0, 1);
        dueOfTwo(Words.LESS, MIN, MAX, 1);
        dueOfTwo(Words.LESS, MAX, MIN, 0);
        dueOfTwo(Words.LESS, MIN, MIN, 0);
        dueOfTwo(Words.LESS, MIN, MIN + 1, 1);
        dueOfTwo(Words.LESS, MAX, MAX, 0);
    }

    private static void op20ThatDoesNotSleep() {
        CHECK.sentence("20: takes n; if n is above 0, it sleeps");
        int[] numbers = {MIN, -1000, -1, 0};
        for (int n : numbers) {
            int[] words = Words.join(Words.number(n), new int[] {w(Words.SLEEP)});
            TaskKernel x = Words.begun(words);
            x.spawn(0, 3);
            due("op 20 with " + n, 0, Probe.lastAnswer(x, words.length));
            due("it stays ready", 1, x.state(0));
            due("it takes n", 0, x.task(0, 2));
            due("it does not wake", 0, x.task(0, 4));
            due("it keeps its arrival", 0, x.next());
        }
        PROBE.dueTrap("op 20 on an empty stack", 1, w(Words.SLEEP));
    }

    /** Task 0 has run the words at the clock 2. */
    private static TaskKernel asleepAt2(int n) {
        int[] words = Words.join(Words.number(n), new int[] {w(Words.SLEEP)});
        TaskKernel x = Words.begun(words);
        x.tick();
        x.tick();
        due("op 20 with " + n, 2, Probe.lastAnswer(x, words.length));
        due("it sleeps", 2, x.state(0));
        return x;
    }

    private static void op20ThatSleeps() {
        CHECK.sentence("it sleeps until the clock is n later");
        int[] numbers = {1, 2, 3, 400};
        for (int n : numbers) {
            TaskKernel x = asleepAt2(n);
            due("the clock at which it wakes", 2 + n, x.task(0, 4));
            for (int i = 1; i < n; i++) {
                due("too early to wake", 0, x.tick());
            }
            due("it sleeps still", 2, x.state(0));
            due("it wakes", 1, x.tick());
            due("it is ready", 1, x.state(0));
            due("the clock", 2 + n, x.clock());
        }
    }

    private static void op20AtMost1000() {
        CHECK.sentence("(1000 if n is more)");
        int[] numbers = {998, 999, 1000, 1001, 1002, GREATEST_X, MAX - 1, MAX};
        int[] wakes = {1000, 1001, 1002, 1002, 1002, 1002, 1002, 1002};
        for (int i = 0; i < numbers.length; i++) {
            due("the clock at which it wakes from " + numbers[i], wakes[i], asleepAt2(numbers[i]).task(0, 4));
        }
    }

    private static void op23() {
        CHECK.sentence("23: puts its number.");
        TaskKernel x = new TaskKernel(8, 1, 0, 1);
        Words.load(x, 0, w(Words.SELF), w(Words.SELF));
        for (int t = 0; t < 8; t++) {
            x.spawn(0, t);
            due("op 23", 16 * t, x.step());
            due("its number", t, x.stack(t, 0));
        }
        due("op 23 on a full stack", 16 * 7 + 9, x.step());
    }

    private static void op24() {
        CHECK.sentence("24: puts the clock.");
        TaskKernel x = Words.begunWith(2, w(Words.CLOCK), w(Words.CLOCK), w(Words.CLOCK));
        due("op 24", 0, x.step());
        due("the clock at first", 0, x.stack(0, 0));
        x.tick();
        due("op 24", 0, x.step());
        due("the clock after a tick", 1, x.stack(0, 0));
        due("op 24 on a full stack", 9, x.step());
    }

    private static void op25() {
        CHECK.sentence("25: takes k; if task k is live, that ends; puts 1 if it was live");
        for (int other = 0; other < 8; other += 7) {
            TaskKernel x = new TaskKernel(8, 1, 0, 1);
            Words.load(x, 0, Words.push(other), w(Words.KILL), w(Words.KILL));
            for (int t = 0; t < 8; t++) {
                x.spawn(0, t == 3 ? 7 : 1);
            }
            due("op 25 of " + other, 16 * 3, Probe.lastAnswer(x, 2));
            due("it puts 1", 1, x.stack(3, 0));
            due("it took k", 1, x.task(3, 2));
            due("state(" + other + ")", 0, x.state(other));
            due("why(" + other + ")", 2, x.why(other));
            due("op 25 of task 1", 16 * 3, x.step());
            due("state(1)", 0, x.state(1));
            due("state(2)", 1, x.state(2));
        }
        PROBE.dueTrap("op 25 on an empty stack", 1, w(Words.KILL));
    }

    private static void op25OfNone() {
        CHECK.sentence("puts 1 if it was live, else 0");
        int[] numbers = {MIN, -1, 1, 3, 4, 5, 8, MAX};
        for (int k : numbers) {
            int[] words = Words.join(Words.number(k), new int[] {w(Words.KILL)});
            PROBE.dueStackWith(2, "op 25 of " + k + ", which is not live", words, 0);
        }
        TaskKernel x = Words.begun(Words.push(1), w(Words.KILL), Words.push(1), w(Words.KILL));
        x.spawn(0, 0);
        x.run(4);
        due("the second time", 0, x.stack(0, 0));
        due("the first time", 1, x.stack(0, 1));
    }

    private static void op25OfItself() {
        CHECK.sentence("(nothing, if it was itself)");
        TaskKernel x = new TaskKernel(8, 1, 0, 1);
        Words.load(x, 0, w(Words.SELF), w(Words.KILL));
        for (int t = 0; t < 8; t++) {
            x.spawn(10, 0);
        }
        for (int t = 0; t < 8; t++) {
            x.kill(t);
            x.spawn(0, 7);
            due("op 25 of itself", 16 * t + 1, Probe.lastAnswer(x, 2));
            due("state(" + t + ")", 0, x.state(t));
            due("why(" + t + ")", 2, x.why(t));
            due("task(" + t + ", 2)", TaskKernel.NONE, x.task(t, 2));
            due("spawn(10, 0)", t, x.spawn(10, 0));
            due("its stack is empty", 0, x.task(t, 2));
        }
    }

    private static void trap1OfAnEmptyStack() {
        CHECK.sentence("1 a number is taken from an empty stack");
        int[] takesOne = {6, 7, 9, 12, 15, 18, 20, 21, 25};
        for (int op : takesOne) {
            PROBE.dueTrap("op " + op + " on an empty stack", 1, w(op));
            TaskKernel x = Words.begunWith(8, Words.push(1), w(op));
            CHECK.due("op " + op + " on one number makes no trap", true, Probe.lastAnswer(x, 2) < 8);
        }
        int[] takesTwo = {2, 3, 4, 5, 8, 10, 19};
        for (int op : takesTwo) {
            PROBE.dueTrap("op " + op + " on an empty stack", 1, w(op));
            PROBE.dueTrap("op " + op + " on one number", 1, Words.push(1), w(op));
            TaskKernel x = Words.begunWith(8, Words.push(1), Words.push(1), w(op));
            CHECK.due("op " + op + " on two numbers makes no trap", true, Probe.lastAnswer(x, 3) < 8);
        }
        int[] takesNone = {0, 1, 11, 13, 16, 17, 22, 23, 24};
        for (int op : takesNone) {
            CHECK.due("op " + op + " on an empty stack makes no trap", true, Words.begun(w(op)).step() < 8);
        }
    }

    private static void trap1OfAFullStack() {
        CHECK.sentence("or put on a full one");
        for (int room = 1; room <= 16; room += 15) {
            int[] full = Words.times(room, Words.push(1));
            int[] puts = {1, 6, 22, 23, 24};
            for (int op : puts) {
                PROBE.dueTrapWith(room, "op " + op + " on " + room, 1, Words.join(full, new int[] {w(op)}));
            }
            int[] putsWhatItTook = {9, 18};
            for (int op : putsWhatItTook) {
                TaskKernel x = Words.begunWith(room, Words.join(full, new int[] {w(op)}));
                due("op " + op + " on " + room, 0, Probe.lastAnswer(x, room + 1));
                due("the height", room, x.task(0, 2));
            }
        }
        PROBE.dueStackWith(1, "op 25 on a full stack", new int[] {Words.push(1), w(Words.KILL)}, 0);
    }

    private static void trap2OfTheMemory() {
        CHECK.sentence("2 there is no such place of memory");
        int[] wrong = {MIN, -1, 16, 63, MAX};
        for (int a : wrong) {
            PROBE.dueTrap("op 9 at " + a, 2, Words.join(Words.number(a), new int[] {w(Words.LOAD)}));
            int[] store = Words.join(EIGHT, Words.number(a), new int[] {w(Words.STORE)});
            PROBE.dueTrap("op 10 at " + a, 2, store);
            TaskKernel x = Words.begun(store);
            x.run(64);
            for (int b = 0; b < 16; b++) {
                due("memory(" + b + ") after op 10 at " + a, 0, x.memory(b));
            }
        }
    }

    private static void trap2OfAJump() {
        CHECK.sentence("a jump, 11 to 13 and 18, to a place that is not 0 .. 63 is one");
        for (int place : NO_PLACES) {
            PROBE.dueTrap("op 11 to " + place, 2, w(Words.JUMP, place));
            PROBE.dueTrap("op 12 to " + place, 2, Words.push(0), w(Words.JUMP_ZERO, place));
            PROBE.dueTrap("op 13 to " + place, 2, w(Words.CALL, place));
            PROBE.dueTrap("op 18 to " + place, 2, Words.push(0), w(Words.BEGIN, place));
            TaskKernel x = Words.begun(Words.push(0), w(Words.BEGIN, place));
            x.run(2);
            due("op 18 to " + place + " begins none", 0, x.state(1));
        }
    }

    private static void trap2OnlyOfAJumpThatIsMade() {
        CHECK.sentence("when it is made");
        for (int place : NO_PLACES) {
            TaskKernel x = Words.begun(Words.push(1), w(Words.JUMP_ZERO, place));
            due("op 12 to " + place + " with 1", 0, Probe.lastAnswer(x, 2));
            due("its place", 2, x.task(0, 0));
            PROBE.dueTrap("op 12 to " + place + " takes a first", 1, w(Words.JUMP_ZERO, place));
            TaskKernel y = Words.begun(w(Words.PRIORITY, place), w(Words.YIELD, place), w(Words.SELF, place));
            due("an op that does not jump", 0, Probe.lastAnswer(y, 3));
        }
    }

    private static void trap3() {
        CHECK.sentence("3 division by 0");
        int[] numbers = {MIN, -1, 0, 1, MAX};
        for (int a : numbers) {
            PROBE.dueTrap(a + " by 0", 3, Words.join(Words.number(a), new int[] {Words.push(0), w(Words.DIV)}));
        }
    }

    private static void trap4() {
        CHECK.sentence("4 there is no such op");
        int[] numbers = {LEAST_X, -1, 0, 1, GREATEST_X};
        for (int op = 26; op <= 31; op++) {
            for (int x : numbers) {
                PROBE.dueTrap("op " + op + " with " + x, 4, w(op, x));
            }
        }
        PROBE.dueTrapWith(1, "op 26 on a full stack", 4, Words.push(1), w(26));
        due("op 25 is one", 1, Probe.lastAnswer(Words.begun(Words.push(0), w(25)), 2));
    }

    private static void trap5() {
        CHECK.sentence("5 a fifth frame, or none to go back to");
        int[] calls = {w(Words.CALL, 1), w(Words.CALL, 2), w(Words.CALL, 3), w(Words.CALL, 4), w(Words.CALL, 5)};
        PROBE.dueTrap("a fifth frame", 5, calls);
        PROBE.dueTrap("none to go back to", 5, w(Words.BACK));
        PROBE.dueTrap("none to go back to any more", 5, w(Words.CALL, 2), w(Words.BACK), w(Words.BACK));
    }

    private static void trap6() {
        CHECK.sentence("6 there is no such queue");
        int[] wrong = {LEAST_X, -1, 3, 4, GREATEST_X};
        for (int q : wrong) {
            PROBE.dueTrap("op 21 to queue " + q + " of 3", 6, Words.push(1), w(Words.SEND, q));
            PROBE.dueTrap("op 22 from queue " + q + " of 3", 6, w(Words.RECEIVE, q));
        }
        for (int q = 0; q < 3; q++) {
            TaskKernel x = Words.begun(Words.push(1), w(Words.SEND, q), w(Words.RECEIVE, q), w(Words.RECEIVE, q));
            due("op 21 to queue " + q, 0, Probe.lastAnswer(x, 2));
            due("op 22 from queue " + q, 0, x.step());
            due("op 22 from queue " + q + " when it is empty", 4, x.step());
        }
    }

    private static void op18LooksBeforeItTakes() {
        CHECK.sentence("In 18 the place is looked at before a number is taken");
        PROBE.dueTrap("op 18 to 64 on an empty stack", 2, w(Words.BEGIN, 64));
        PROBE.dueTrap("op 18 to -1 on an empty stack", 2, w(Words.BEGIN, -1));
        PROBE.dueTrap("op 18 to 63 on an empty stack", 1, w(Words.BEGIN, 63));
        PROBE.dueTrap("op 18 to 0 on an empty stack", 1, w(Words.BEGIN, 0));
        TaskKernel x = Words.begun(w(Words.BEGIN, 63));
        x.step();
        due("op 18 without p begins none", 0, x.state(1));
    }

    private static void ops21And22LookBeforeTheyTake() {
        CHECK.sentence("in 21 and 22 the queue is");
        int[] wrong = {-1, 3};
        for (int q : wrong) {
            PROBE.dueTrap("op 21 to queue " + q + " on an empty stack", 6, w(Words.SEND, q));
            PROBE.dueTrapWith(1, "op 22 from queue " + q + " on a full stack", 6, Words.push(1), w(Words.RECEIVE, q));
        }
        PROBE.dueTrap("op 21 to queue 2 on an empty stack", 1, w(Words.SEND, 2));
        PROBE.dueTrapWith(1, "op 22 from queue 2 on a full stack", 1, Words.push(1), w(Words.RECEIVE, 2));
    }

    private static void op10LooksBeforeItTakes() {
        CHECK.sentence("in 10 the place of the memory before a is taken");
        PROBE.dueTrap("op 10 at 16 without a", 2, Words.push(16), w(Words.STORE));
        PROBE.dueTrap("op 10 at -1 without a", 2, Words.push(-1), w(Words.STORE));
        PROBE.dueTrap("op 10 at 15 without a", 1, Words.push(15), w(Words.STORE));
        PROBE.dueTrap("op 10 at 0 without a", 1, Words.push(0), w(Words.STORE));
    }

    private static void op13LooksBeforeTheFrames() {
        CHECK.sentence("in 13 the place before the frames");
        int[] calls = {w(Words.CALL, 1), w(Words.CALL, 2), w(Words.CALL, 3), w(Words.CALL, 4)};
        for (int place : NO_PLACES) {
            PROBE.dueTrap("op 13 to " + place + " with four frames", 2, Words.join(calls, new int[] {w(Words.CALL, place)}));
        }
        PROBE.dueTrap("op 13 to 63 with four frames", 5, Words.join(calls, new int[] {w(Words.CALL, 63)}));
    }

    private static void op5TakesBothFirst() {
        CHECK.sentence("in 5 both are taken first");
        PROBE.dueTrap("op 5 on 0 alone", 1, Words.push(0), w(Words.DIV));
        PROBE.dueTrap("op 5 on 1 alone", 1, Words.push(1), w(Words.DIV));
        PROBE.dueTrap("op 5 on an empty stack", 1, w(Words.DIV));
    }
}
