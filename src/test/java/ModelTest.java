import java.util.Random;

/** Many runs of at most 512 calls, the same each time, that the class and the plain model must answer alike. */
public final class ModelTest {
    private static final int RUNS = 12000;

    /** Some of these make two calls; with the 64 pokes no object gets more than the document's 512. */
    private static final int CALLS = 220;
    private static final int[] FAR = {Integer.MIN_VALUE, Integer.MAX_VALUE, -1, 64, 65, 1000};
    private static final Check CHECK = new Check("ModelTest");

    /** How often each answer of step() was seen, without the task: a test that saw none of a kind proves nothing of it. */
    private static final int[] MARKS = new int[16];

    private final Random random;
    private final TaskKernel kernel;
    private final PlainModel model;

    private ModelTest(int seed) {
        random = new Random(seed);
        int tasks = between(0, 9);
        int words = random.nextBoolean() ? between(4, 17) : between(0, 4);
        int queues = random.nextBoolean() ? 2 : between(-1, 5);
        int room = random.nextBoolean() ? 1 : between(0, 7);
        kernel = new TaskKernel(tasks, words, queues, room);
        model = new PlainModel(tasks, words, queues, room);
    }

    public static void main(String[] args) {
        for (int seed = 0; seed < RUNS; seed++) {
            new ModelTest(seed).play(seed);
        }
        int[] seen = {0, 1, 2, 3, 4, 9, 10, 11, 12, 13, 14};
        for (int mark : seen) {
            CHECK.due("the mark " + mark + " was seen", true, MARKS[mark] > 50);
        }
        CHECK.finish();
    }

    private int between(int least, int most) {
        return least + random.nextInt(most - least + 1);
    }

    private int near(int least, int most) {
        return random.nextInt(40) == 0 ? FAR[random.nextInt(FAR.length)] : between(least, most);
    }

    private void play(int seed) {
        for (int place = 0; place < 64; place++) {
            int word = word(place);
            CHECK.due("run " + seed + ": poke(" + place + ", " + word + ")", model.poke(place, word), kernel.poke(place, word) ? 1 : 0);
        }
        for (int call = 0; call < CALLS; call++) {
            if (random.nextInt(3) == 0) {
                look("run " + seed + ", call " + call + ": ");
            } else {
                act("run " + seed + ", call " + call + ": ");
            }
        }
    }

    /** Every other word mostly puts a number, so that few tasks end by an empty stack before they come far. */
    private int word(int place) {
        int kind = random.nextInt(14);
        if (place % 2 == 0 ? kind < 11 : kind < 2) {
            return Words.push(random.nextInt(12) == 0 ? random.nextInt() : between(-2, 9));
        }
        if (kind < 6) {
            return Words.word(between(Words.SLEEP, Words.RECEIVE), near(0, 1));
        }
        if (kind < 8) {
            return Words.word(between(Words.JUMP, Words.BEGIN), near(0, 63));
        }
        if (kind < 11) {
            return Words.word(between(Words.ADD, Words.STORE), 0);
        }
        return random.nextInt(20) == 0 ? random.nextInt() : Words.word(between(0, 26), near(0, 63));
    }

    private void act(String when) {
        switch (random.nextInt(10)) {
            case 0, 1, 2 -> {
                int place = near(0, 63);
                int priority = near(0, 7);
                CHECK.due(when + "spawn(" + place + ", " + priority + ")", model.spawn(place, priority), kernel.spawn(place, priority));
            }
            case 3, 4, 5 -> {
                int mark = model.step();
                CHECK.due(when + "step()", mark, kernel.step());
                if (mark >= 0) {
                    MARKS[mark & 15]++;
                }
            }
            case 6, 7 -> {
                int n = near(0, random.nextInt(10) == 0 ? 65 : 12);
                CHECK.due(when + "run(" + n + ")", model.run(n), kernel.run(n));
            }
            case 8 -> CHECK.due(when + "tick()", model.tick(), kernel.tick());
            default -> {
                int t = near(-1, 30);
                CHECK.due(when + "kill(" + t + ")", model.kill(t), kernel.kill(t) ? 1 : 0);
                int place = near(0, 63);
                CHECK.due(when + "poke(" + place + ", 0)", model.poke(place, 0), kernel.poke(place, 0) ? 1 : 0);
            }
        }
    }

    private void look(String when) {
        int t = near(-1, 8);
        int q = near(-1, 4);
        int k = near(-1, 4);
        switch (random.nextInt(13)) {
            case 0 -> CHECK.due(when + "state(" + t + ")", model.state(t), kernel.state(t));
            case 1, 2 -> {
                int which = near(-1, 6);
                CHECK.due(when + "task(" + t + ", " + which + ")", model.task(t, which), kernel.task(t, which));
            }
            case 3 -> CHECK.due(when + "stack(" + t + ", " + k + ")", model.stack(t, k), kernel.stack(t, k));
            case 4 -> CHECK.due(when + "next()", model.next(), kernel.next());
            case 5 -> CHECK.due(when + "queue(" + q + ")", model.queue(q), kernel.queue(q));
            case 6 -> CHECK.due(when + "queued(" + q + ", " + k + ")", model.queued(q, k), kernel.queued(q, k));
            case 7 -> CHECK.due(when + "waiter(" + q + ", true, " + k + ")", model.waiter(q, true, k), kernel.waiter(q, true, k));
            case 8 -> CHECK.due(when + "waiter(" + q + ", false, " + k + ")", model.waiter(q, false, k), kernel.waiter(q, false, k));
            case 9 -> {
                int a = near(-1, 16);
                CHECK.due(when + "memory(" + a + ")", model.memory(a), kernel.memory(a));
            }
            case 10 -> CHECK.due(when + "emitted()", model.emitted(), kernel.emitted());
            case 11 -> {
                int back = near(-1, 32);
                CHECK.due(when + "out(" + back + ")", model.out(back), kernel.out(back));
            }
            default -> {
                CHECK.due(when + "why(" + t + ")", model.why(t), kernel.why(t));
                CHECK.due(when + "clock()", model.clock(), kernel.clock());
            }
        }
    }
}
