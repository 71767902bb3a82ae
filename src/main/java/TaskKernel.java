/**
 * A kernel that runs tasks on one row of code. The document (../shared/DOC.md) says what each call
 * of the face answers; README.md says how to use it.
 */
public final class TaskKernel {
    /** No such thing. */
    public static final int NONE = -2147483648;

    private static final int CODE_WORDS = 64;
    private static final int MEMORY_NUMBERS = 16;
    private static final int OUTS_KEPT = 32; // a power of two, see outSlot
    private static final int MOST_FRAMES = 4;
    private static final int MOST_STEPS = 64;
    private static final int MOST_PRIORITY = 7;
    private static final int LONGEST_SLEEP = 1000;
    private static final int NO_QUEUE = -1;

    private static final int FREE = 0;
    private static final int READY = 1;
    private static final int SLEEPING = 2;
    private static final int SENDING = 3;
    private static final int RECEIVING = 4;

    private static final int NO_TRAP = 0;
    private static final int STACK_TRAP = 1;
    private static final int PLACE_TRAP = 2;
    private static final int DIVISION_TRAP = 3;
    private static final int OP_TRAP = 4;
    private static final int FRAME_TRAP = 5;
    private static final int QUEUE_TRAP = 6;

    private static final int ENDED_ITSELF = 1;
    private static final int KILLED = 2;
    private static final int TRAPPED = 2;

    private static final int STEP_READY = 0;
    private static final int STEP_ENDED = 1;
    private static final int STEP_TRAPPED = 8;
    private static final int STEP_MARKS = 16;

    private final Task[] tasks;
    private final Mailbox[] mailboxes;
    private final int[] code = new int[CODE_WORDS];
    private final int[] cells = new int[MEMORY_NUMBERS];
    private final int[] outs = new int[OUTS_KEPT];
    private int outCount = 0;
    private int now = 0;
    private int tickets = 0;
    private boolean spawned = false;

    public TaskKernel(int tasks, int words, int queues, int room) {
        int stackRoom = nearest(words, 1, 16);
        int queueRoom = nearest(room, 1, 6);
        this.tasks = new Task[nearest(tasks, 1, 8)];
        for (int t = 0; t < this.tasks.length; t++) {
            this.tasks[t] = new Task(t, stackRoom);
        }
        mailboxes = new Mailbox[nearest(queues, 0, 4)];
        for (int q = 0; q < mailboxes.length; q++) {
            mailboxes[q] = new Mailbox(queueRoom);
        }
    }

    public boolean poke(int place, int word) {
        if (!isCodePlace(place) || spawned) {
            return false;
        }
        code[place] = word;
        return true;
    }

    public int spawn(int place, int priority) {
        if (!isCodePlace(place) || priority < 0 || priority > MOST_PRIORITY) {
            return -2;
        }
        int begun = beginLeastFree(place, priority);
        if (begun >= 0) {
            spawned = true;
        }
        return begun;
    }

    public int step() {
        int maker = next();
        if (maker < 0) {
            return -1;
        }
        Task task = tasks[maker];
        int trap = runWord(task);
        if (trap == NO_TRAP) {
            return STEP_MARKS * maker + markOf(task.state);
        }
        end(task, TRAPPED + trap);
        return STEP_MARKS * maker + STEP_TRAPPED + trap;
    }

    public int run(int n) {
        if (n < 1 || n > MOST_STEPS) {
            return -1;
        }
        for (int made = 0; made < n; made++) {
            int answer = step();
            if (answer < 0) {
                return made;
            }
            if (tellsAnEnd(answer % STEP_MARKS)) {
                return made + 1;
            }
        }
        return n;
    }

    public int tick() {
        now++;
        for (int woken = 0; woken < tasks.length; woken++) {
            Task due = firstDueSleeper();
            if (due == null) {
                return woken;
            }
            enter(due, READY);
        }
        return tasks.length;
    }

    public boolean kill(int task) {
        if (!isLive(task)) {
            return false;
        }
        end(tasks[task], KILLED);
        return true;
    }

    public int state(int task) {
        return isTask(task) ? tasks[task].state : -1;
    }

    public int task(int task, int which) {
        if (!isLive(task)) {
            return NONE;
        }
        Task asked = tasks[task];
        switch (which) {
            case 0:
                return asked.place;
            case 1:
                return asked.priority;
            case 2:
                return asked.numbers.count;
            case 3:
                return asked.frames.count;
            case 4:
                return asked.wakesAt;
            case 5:
                return asked.waitsAt;
            default:
                return NONE;
        }
    }

    public int stack(int task, int k) {
        return isLive(task) ? tasks[task].numbers.fromTop(k) : NONE;
    }

    public int next() {
        int best = -1;
        for (int t = 0; t < tasks.length; t++) {
            if (tasks[t].state == READY && (best < 0 || tasks[t].goesBefore(tasks[best]))) {
                best = t;
            }
        }
        return best;
    }

    public int queue(int q) {
        return isQueue(q) ? mailboxes[q].count : -1;
    }

    public int queued(int q, int k) {
        return isQueue(q) ? mailboxes[q].fromFirst(k) : NONE;
    }

    public int waiter(int q, boolean sends, int k) {
        if (!isQueue(q)) {
            return -1;
        }
        int waiting = sends ? SENDING : RECEIVING;
        for (int t = 0; t < tasks.length; t++) {
            if (tasks[t].isWaiting(waiting, q) && countBefore(tasks[t]) == k) {
                return t;
            }
        }
        return -1;
    }

    public int memory(int a) {
        return isCell(a) ? cells[a] : NONE;
    }

    public int emitted() {
        return outCount;
    }

    public int out(int k) {
        if (k < 0 || k >= OUTS_KEPT || k >= outCount) {
            return NONE;
        }
        return outs[outSlot(outCount - 1 - k)];
    }

    public int why(int task) {
        return isTask(task) ? tasks[task].reason : -1;
    }

    public int clock() {
        return now;
    }

    private static int nearest(int wanted, int least, int most) {
        return Math.max(least, Math.min(most, wanted));
    }

    private static boolean isCodePlace(int place) {
        return place >= 0 && place < CODE_WORDS;
    }

    private static boolean isCell(int a) {
        return a >= 0 && a < MEMORY_NUMBERS;
    }

    /** A mask and no remainder: the slot is one of the row's even if the count should ever wrap below 0. */
    private static int outSlot(int count) {
        return count & (OUTS_KEPT - 1);
    }

    private boolean isQueue(int q) {
        return q >= 0 && q < mailboxes.length;
    }

    private boolean isTask(int t) {
        return t >= 0 && t < tasks.length;
    }

    private boolean isLive(int t) {
        return isTask(t) && tasks[t].state != FREE;
    }

    private static int markOf(int state) {
        if (state == READY) {
            return STEP_READY;
        }
        return state == FREE ? STEP_ENDED : state;
    }

    private static boolean tellsAnEnd(int mark) {
        return mark == STEP_ENDED || mark >= STEP_TRAPPED;
    }

    /**
     * Every state that is entered gives a new ticket, so that one number orders the arrivals of the
     * ready, the sleepers and those that wait at a queue, and no list has to be kept for any of them.
     */
    private void enter(Task task, int state) {
        task.state = state;
        task.ticket = tickets;
        tickets++;
        task.wakesAt = 0;
        task.waitsAt = NO_QUEUE;
    }

    private void waitAt(Task task, int state, int q) {
        enter(task, state);
        task.waitsAt = q;
    }

    private static void end(Task task, int reason) {
        task.state = FREE;
        task.reason = reason;
    }

    private int beginLeastFree(int place, int priority) {
        for (int t = 0; t < tasks.length; t++) {
            if (tasks[t].state == FREE) {
                tasks[t].reset(place, priority);
                enter(tasks[t], READY);
                return t;
            }
        }
        return -1;
    }

    private Task firstDueSleeper() {
        Task first = null;
        for (int t = 0; t < tasks.length; t++) {
            Task task = tasks[t];
            if (task.state == SLEEPING && task.wakesAt == now && (first == null || task.ticket < first.ticket)) {
                first = task;
            }
        }
        return first;
    }

    private Task firstWaiting(int state, int q) {
        Task first = null;
        for (int t = 0; t < tasks.length; t++) {
            Task task = tasks[t];
            if (task.isWaiting(state, q) && (first == null || task.ticket < first.ticket)) {
                first = task;
            }
        }
        return first;
    }

    /** How many wait for the same thing at the same queue and came earlier. */
    private int countBefore(Task task) {
        int before = 0;
        for (int t = 0; t < tasks.length; t++) {
            if (tasks[t].isWaiting(task.state, task.waitsAt) && tasks[t].ticket < task.ticket) {
                before++;
            }
        }
        return before;
    }

    /** Answers the trap, or NO_TRAP; so does each method below that runs an op. */
    private int runWord(Task task) {
        int place = task.place;
        if (!isCodePlace(place)) {
            return PLACE_TRAP;
        }
        task.place = place + 1;
        int op = code[place] & 31;
        int x = code[place] >> 5;
        if (op <= 10) {
            return runOnNumbers(task, op, x);
        }
        return op <= 17 ? runOnItself(task, op, x) : runWithOthers(task, op, x);
    }

    private int runOnNumbers(Task task, int op, int x) {
        switch (op) {
            case 0:
                end(task, ENDED_ITSELF);
                return NO_TRAP;
            case 1:
                return task.put(x);
            case 6:
                return copyTop(task);
            case 7:
                return drop(task);
            case 8:
                return swap(task);
            case 9:
                return load(task);
            case 10:
                return store(task);
            default:
                return compute(task, op);
        }
    }

    private int runOnItself(Task task, int op, int x) {
        switch (op) {
            case 11:
                return jump(task, x);
            case 12:
                return jumpIfZero(task, x);
            case 13:
                return callPlace(task, x);
            case 14:
                return goBack(task);
            case 15:
                return emit(task);
            case 16:
                enter(task, READY);
                return NO_TRAP;
            default:
                task.priority = x & MOST_PRIORITY;
                return NO_TRAP;
        }
    }

    private int runWithOthers(Task task, int op, int x) {
        switch (op) {
            case 18:
                return beginOther(task, x);
            case 19:
                return compute(task, op);
            case 20:
                return sleep(task);
            case 21:
                return send(task, x);
            case 22:
                return receive(task, x);
            case 23:
                return task.put(task.number);
            case 24:
                return task.put(now);
            case 25:
                return killOther(task);
            default:
                return OP_TRAP;
        }
    }

    /** The ops of two numbers, 2 to 5 and 19. */
    private int compute(Task task, int op) {
        if (task.numbers.count < 2) {
            return STACK_TRAP;
        }
        int upper = task.numbers.pop();
        int lower = task.numbers.pop();
        switch (op) {
            case 2:
                return task.put(lower + upper);
            case 3:
                return task.put(lower - upper);
            case 4:
                return task.put(lower * upper);
            case 5:
                return upper == 0 ? DIVISION_TRAP : task.put(lower / upper);
            default:
                return task.put(lower < upper ? 1 : 0);
        }
    }

    private int copyTop(Task task) {
        return task.numbers.count < 1 ? STACK_TRAP : task.put(task.numbers.fromTop(0));
    }

    private int drop(Task task) {
        if (task.numbers.count < 1) {
            return STACK_TRAP;
        }
        task.numbers.pop();
        return NO_TRAP;
    }

    private int swap(Task task) {
        if (task.numbers.count < 2) {
            return STACK_TRAP;
        }
        int upper = task.numbers.pop();
        int lower = task.numbers.pop();
        task.numbers.push(upper);
        task.numbers.push(lower);
        return NO_TRAP;
    }

    private int load(Task task) {
        if (task.numbers.count < 1) {
            return STACK_TRAP;
        }
        int a = task.numbers.pop();
        return isCell(a) ? task.put(cells[a]) : PLACE_TRAP;
    }

    private int store(Task task) {
        if (task.numbers.count < 1) {
            return STACK_TRAP;
        }
        int a = task.numbers.pop();
        if (!isCell(a)) {
            return PLACE_TRAP;
        }
        if (task.numbers.count < 1) {
            return STACK_TRAP;
        }
        cells[a] = task.numbers.pop();
        return NO_TRAP;
    }

    private int jump(Task task, int x) {
        if (!isCodePlace(x)) {
            return PLACE_TRAP;
        }
        task.place = x;
        return NO_TRAP;
    }

    private int jumpIfZero(Task task, int x) {
        if (task.numbers.count < 1) {
            return STACK_TRAP;
        }
        return task.numbers.pop() == 0 ? jump(task, x) : NO_TRAP;
    }

    private int callPlace(Task task, int x) {
        if (!isCodePlace(x)) {
            return PLACE_TRAP;
        }
        if (!task.frames.push(task.place)) {
            return FRAME_TRAP;
        }
        task.place = x;
        return NO_TRAP;
    }

    private int goBack(Task task) {
        if (task.frames.count < 1) {
            return FRAME_TRAP;
        }
        task.place = task.frames.pop();
        return NO_TRAP;
    }

    private int emit(Task task) {
        if (task.numbers.count < 1) {
            return STACK_TRAP;
        }
        outs[outSlot(outCount)] = task.numbers.pop();
        outCount++;
        return NO_TRAP;
    }

    private int beginOther(Task task, int x) {
        if (!isCodePlace(x)) {
            return PLACE_TRAP;
        }
        if (task.numbers.count < 1) {
            return STACK_TRAP;
        }
        int priority = task.numbers.pop() & MOST_PRIORITY;
        return task.put(beginLeastFree(x, priority));
    }

    private int sleep(Task task) {
        if (task.numbers.count < 1) {
            return STACK_TRAP;
        }
        int n = task.numbers.pop();
        if (n > 0) {
            enter(task, SLEEPING);
            task.wakesAt = now + Math.min(n, LONGEST_SLEEP);
        }
        return NO_TRAP;
    }

    private int send(Task task, int q) {
        if (!isQueue(q)) {
            return QUEUE_TRAP;
        }
        if (task.numbers.count < 1) {
            return STACK_TRAP;
        }
        int a = task.numbers.pop();
        Task receiver = firstWaiting(RECEIVING, q);
        if (receiver != null) {
            receiver.numbers.push(a);
            enter(receiver, READY);
        } else if (!mailboxes[q].addLast(a)) {
            waitAt(task, SENDING, q);
            task.carries = a;
        }
        return NO_TRAP;
    }

    private int receive(Task task, int q) {
        if (!isQueue(q)) {
            return QUEUE_TRAP;
        }
        // Looked at first: a number that finds no room stays in its queue, and a task that waits
        // keeps room for the number that a sender will put there.
        if (task.numbers.isFull()) {
            return STACK_TRAP;
        }
        Mailbox mailbox = mailboxes[q];
        if (mailbox.count < 1) {
            waitAt(task, RECEIVING, q);
            return NO_TRAP;
        }
        task.numbers.push(mailbox.removeFirst());
        Task sender = firstWaiting(SENDING, q);
        if (sender != null) {
            mailbox.addLast(sender.carries);
            enter(sender, READY);
        }
        return NO_TRAP;
    }

    private int killOther(Task task) {
        if (task.numbers.count < 1) {
            return STACK_TRAP;
        }
        int k = task.numbers.pop();
        if (!isLive(k)) {
            return task.put(0);
        }
        end(tasks[k], KILLED);
        return k == task.number ? NO_TRAP : task.put(1);
    }

    private static final class Task {
        final int number;
        final Pile numbers;
        final Pile frames;
        int state = FREE;
        int place = 0;
        int priority = 0;
        int ticket = 0;
        int wakesAt = 0;
        int waitsAt = NO_QUEUE;
        int carries = 0;
        int reason = 0;

        Task(int number, int stackRoom) {
            this.number = number;
            numbers = new Pile(stackRoom);
            frames = new Pile(MOST_FRAMES);
        }

        void reset(int firstPlace, int firstPriority) {
            place = firstPlace;
            priority = firstPriority;
            numbers.count = 0;
            frames.count = 0;
        }

        boolean goesBefore(Task other) {
            return priority > other.priority || (priority == other.priority && ticket < other.ticket);
        }

        boolean isWaiting(int waiting, int q) {
            return state == waiting && waitsAt == q;
        }

        int put(int n) {
            return numbers.push(n) ? NO_TRAP : STACK_TRAP;
        }
    }

    /** Numbers of which the last one put is the first one taken. */
    private static final class Pile {
        final int[] held;
        int count = 0;

        Pile(int room) {
            held = new int[room];
        }

        boolean isFull() {
            return count >= held.length;
        }

        boolean push(int n) {
            if (count >= held.length) {
                return false;
            }
            held[count] = n;
            count++;
            return true;
        }

        /** Whoever calls has seen that count is above 0. */
        int pop() {
            count--;
            return held[count];
        }

        int fromTop(int k) {
            return k >= 0 && k < count ? held[count - 1 - k] : NONE;
        }
    }

    /** The numbers of a queue, in a ring. */
    private static final class Mailbox {
        final int[] held;
        int first = 0;
        int count = 0;

        Mailbox(int room) {
            held = new int[room];
        }

        boolean addLast(int n) {
            if (count >= held.length) {
                return false;
            }
            held[slot(count)] = n;
            count++;
            return true;
        }

        /** Whoever calls has seen that count is above 0. */
        int removeFirst() {
            int n = held[first];
            first = slot(1);
            count--;
            return n;
        }

        int fromFirst(int k) {
            return k >= 0 && k < count ? held[slot(k)] : NONE;
        }

        /** Where the number k behind the first one stands; k is at most the room. */
        private int slot(int k) {
            int straight = first + k;
            return straight < held.length ? straight : straight - held.length;
        }
    }
}
