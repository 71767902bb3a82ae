import java.util.Arrays;

/** The ops by name, and programs made of them. */
final class Words {
    static final int END = 0;
    static final int PUSH = 1;
    static final int ADD = 2;
    static final int SUB = 3;
    static final int MUL = 4;
    static final int DIV = 5;
    static final int DUP = 6;
    static final int DROP = 7;
    static final int SWAP = 8;
    static final int LOAD = 9;
    static final int STORE = 10;
    static final int JUMP = 11;
    static final int JUMP_ZERO = 12;
    static final int CALL = 13;
    static final int BACK = 14;
    static final int EMIT = 15;
    static final int YIELD = 16;
    static final int PRIORITY = 17;
    static final int BEGIN = 18;
    static final int LESS = 19;
    static final int SLEEP = 20;
    static final int SEND = 21;
    static final int RECEIVE = 22;
    static final int SELF = 23;
    static final int CLOCK = 24;
    static final int KILL = 25;

    private Words() {
    }

    static int word(int op, int x) {
        return x << 5 | op;
    }

    static int push(int x) {
        return word(PUSH, x);
    }

    /** Words that put any int; a word alone has 27 bits for it. Needs room for two numbers. */
    static int[] number(int n) {
        if (n == n << 5 >> 5) {
            return new int[] {push(n)};
        }
        return new int[] {push(n >> 16), push(1 << 16), word(MUL, 0), push(n & 0xffff), word(ADD, 0)};
    }

    static int[] join(int[]... rows) {
        return Arrays.stream(rows).flatMapToInt(Arrays::stream).toArray();
    }

    /** The same word again and again. */
    static int[] times(int count, int word) {
        int[] words = new int[count];
        Arrays.fill(words, word);
        return words;
    }

    static void load(TaskKernel kernel, int place, int... words) {
        for (int i = 0; i < words.length; i++) {
            if (!kernel.poke(place + i, words[i])) {
                throw new IllegalStateException("no word can be put at " + (place + i));
            }
        }
    }

    /** A kernel with 4 tasks, 8 words, 3 queues of 2, whose task 0 (priority 3) stands at the first of the words. */
    static TaskKernel begun(int... words) {
        return begunWith(8, words);
    }

    static TaskKernel begunWith(int stackRoom, int... words) {
        TaskKernel kernel = new TaskKernel(4, stackRoom, 3, 2);
        load(kernel, 0, words);
        kernel.spawn(0, 3);
        return kernel;
    }
}
