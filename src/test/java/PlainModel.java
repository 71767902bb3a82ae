import java.util.ArrayList;
import java.util.List;

/**
 * The document once more, told with lists and exceptions: it shares neither the tickets nor the trap
 * numbers handed upwards with the class, so that a slip in one of the two shows as a difference.
 */
final class PlainModel {
    static final int NONE = Integer.MIN_VALUE;

    private static final class Trap extends RuntimeException {
        private static final long serialVersionUID = 1L;
        final int code;

        Trap(int code) {
            super(null, null, false, false);
            this.code = code;
        }
    }

    private static final class Entry {
        final int task;
        final int number;

        Entry(int task, int number) {
            this.task = task;
            this.number = number;
        }
    }

    private static final class Queue {
        final List<Integer> numbers = new ArrayList<>();
        final List<Entry> senders = new ArrayList<>();
        final List<Integer> receivers = new ArrayList<>();
    }

    private static final class Live {
        int place;
        int priority;
        final List<Integer> stack = new ArrayList<>();
        final List<Integer> frames = new ArrayList<>();
    }

    private final int stackRoom;
    private final int queueRoom;
    private final int[] code = new int[64];
    private final int[] memory = new int[16];
    private final Live[] live;
    private final int[] why;
    private final List<Queue> queues = new ArrayList<>();
    private final List<Integer> ready = new ArrayList<>();
    private final List<Entry> sleepers = new ArrayList<>();
    private final List<Integer> out = new ArrayList<>();
    private int clock = 0;
    private boolean closed = false;

    PlainModel(int tasks, int words, int queues, int room) {
        live = new Live[clamp(tasks, 1, 8)];
        why = new int[live.length];
        stackRoom = clamp(words, 1, 16);
        queueRoom = clamp(room, 1, 6);
        for (int q = 0; q < clamp(queues, 0, 4); q++) {
            this.queues.add(new Queue());
        }
    }

    private static int clamp(int v, int least, int most) {
        if (v < least) {
            return least;
        }
        return v > most ? most : v;
    }

    int poke(int place, int word) {
        if (closed || place < 0 || place > 63) {
            return 0;
        }
        code[place] = word;
        return 1;
    }

    int spawn(int place, int priority) {
        if (place < 0 || place > 63 || priority < 0 || priority > 7) {
            return -2;
        }
        int t = begin(place, priority);
        closed = closed || t != -1;
        return t;
    }

    private int begin(int place, int priority) {
        for (int t = 0; t < live.length; t++) {
            if (live[t] == null) {
                live[t] = new Live();
                live[t].place = place;
                live[t].priority = priority;
                ready.add(t);
                return t;
            }
        }
        return -1;
    }

    private void end(int t, int reason) {
        live[t] = null;
        why[t] = reason;
        ready.remove((Integer) t);
        sleepers.removeIf(e -> e.task == t);
        for (Queue q : queues) {
            q.senders.removeIf(e -> e.task == t);
            q.receivers.remove((Integer) t);
        }
    }

    int next() {
        int best = -1;
        for (int t : ready) {
            if (best == -1 || live[t].priority > live[best].priority) {
                best = t;
            }
        }
        return best;
    }

    int step() {
        int t = next();
        if (t == -1) {
            return -1;
        }
        try {
            perform(t, live[t]);
        } catch (Trap trap) {
            end(t, 2 + trap.code);
            return 16 * t + 8 + trap.code;
        }
        int[] marks = {1, 0, 2, 3, 4};
        return 16 * t + marks[state(t)];
    }

    private static int place(int x) {
        if (x < 0 || x > 63) {
            throw new Trap(2);
        }
        return x;
    }

    private static int take(Live me) {
        if (me.stack.isEmpty()) {
            throw new Trap(1);
        }
        return me.stack.remove(me.stack.size() - 1);
    }

    private void put(Live me, int v) {
        if (me.stack.size() == stackRoom) {
            throw new Trap(1);
        }
        me.stack.add(v);
    }

    private static int cell(int a) {
        if (a < 0 || a > 15) {
            throw new Trap(2);
        }
        return a;
    }

    private Queue queueAt(int q) {
        if (q < 0 || q >= queues.size()) {
            throw new Trap(6);
        }
        return queues.get(q);
    }

    private void perform(int t, Live me) {
        int w = code[place(me.place)];
        me.place++;
        int x = w >> 5;
        switch (w & 31) {
            case 0 -> end(t, 1);
            case 1 -> put(me, x);
            case 2 -> { int b = take(me); int a = take(me); put(me, a + b); }
            case 3 -> { int b = take(me); int a = take(me); put(me, a - b); }
            case 4 -> { int b = take(me); int a = take(me); put(me, a * b); }
            case 5 -> { int b = take(me); int a = take(me); if (b == 0) { throw new Trap(3); } put(me, a / b); }
            case 6 -> { int a = take(me); put(me, a); put(me, a); }
            case 7 -> take(me);
            case 8 -> { int b = take(me); int a = take(me); put(me, b); put(me, a); }
            case 9 -> put(me, memory[cell(take(me))]);
            case 10 -> { int a = cell(take(me)); memory[a] = take(me); }
            case 11 -> me.place = place(x);
            case 12 -> { if (take(me) == 0) { me.place = place(x); } }
            case 13 -> { place(x); if (me.frames.size() == 4) { throw new Trap(5); } me.frames.add(me.place); me.place = x; }
            case 14 -> { if (me.frames.isEmpty()) { throw new Trap(5); } me.place = me.frames.remove(me.frames.size() - 1); }
            case 15 -> out.add(take(me));
            case 16 -> { ready.remove((Integer) t); ready.add(t); }
            case 17 -> me.priority = x & 7;
            case 18 -> { place(x); int p = take(me); put(me, begin(x, p & 7)); }
            case 19 -> { int a = take(me); int b = take(me); put(me, b < a ? 1 : 0); }
            case 20 -> sleep(t, take(me));
            case 21 -> { Queue q = queueAt(x); send(t, q, take(me)); }
            case 22 -> receive(t, me, queueAt(x));
            case 23 -> put(me, t);
            case 24 -> put(me, clock);
            case 25 -> { int k = take(me); int was = kill(k); if (k != t) { put(me, was); } }
            default -> throw new Trap(4);
        }
    }

    private void sleep(int t, int n) {
        if (n > 0) {
            ready.remove((Integer) t);
            sleepers.add(new Entry(t, clock + (n > 1000 ? 1000 : n)));
        }
    }

    private void send(int t, Queue q, int a) {
        if (!q.receivers.isEmpty()) {
            int r = q.receivers.remove(0);
            put(live[r], a);
            ready.add(r);
        } else if (q.numbers.size() < queueRoom) {
            q.numbers.add(a);
        } else {
            ready.remove((Integer) t);
            q.senders.add(new Entry(t, a));
        }
    }

    private void receive(int t, Live me, Queue q) {
        if (q.numbers.isEmpty()) {
            put(me, 0);
            take(me);
            ready.remove((Integer) t);
            q.receivers.add(t);
            return;
        }
        put(me, q.numbers.get(0));
        q.numbers.remove(0);
        if (!q.senders.isEmpty()) {
            Entry s = q.senders.remove(0);
            q.numbers.add(s.number);
            ready.add(s.task);
        }
    }

    int run(int n) {
        if (n < 1 || n > 64) {
            return -1;
        }
        int made = 0;
        int mark = 0;
        while (made < n && next() != -1 && mark != 1 && mark < 8) {
            mark = step() & 15;
            made++;
        }
        return made;
    }

    int tick() {
        clock++;
        List<Entry> due = new ArrayList<>(sleepers);
        due.removeIf(e -> e.number != clock);
        sleepers.removeAll(due);
        due.forEach(e -> ready.add(e.task));
        return due.size();
    }

    private boolean isLive(int t) {
        return t >= 0 && t < live.length && live[t] != null;
    }

    int kill(int t) {
        if (!isLive(t)) {
            return 0;
        }
        end(t, 2);
        return 1;
    }

    int state(int t) {
        if (t < 0 || t >= live.length) {
            return -1;
        }
        if (live[t] == null) {
            return 0;
        }
        if (ready.contains(t)) {
            return 1;
        }
        if (wakes(t) != 0) {
            return 2;
        }
        return queues.get(waitsAt(t)).receivers.contains(t) ? 4 : 3;
    }

    private int wakes(int t) {
        return sleepers.stream().filter(e -> e.task == t).mapToInt(e -> e.number).findFirst().orElse(0);
    }

    private int waitsAt(int t) {
        for (int q = 0; q < queues.size(); q++) {
            Queue at = queues.get(q);
            if (at.receivers.contains(t) || at.senders.stream().anyMatch(e -> e.task == t)) {
                return q;
            }
        }
        return -1;
    }

    int task(int t, int which) {
        if (!isLive(t)) {
            return NONE;
        }
        return switch (which) {
            case 0 -> live[t].place;
            case 1 -> live[t].priority;
            case 2 -> live[t].stack.size();
            case 3 -> live[t].frames.size();
            case 4 -> wakes(t);
            case 5 -> waitsAt(t);
            default -> NONE;
        };
    }

    private static int at(List<Integer> list, long k, int otherwise) {
        return k >= 0 && k < list.size() ? list.get((int) k) : otherwise;
    }

    int stack(int t, int k) {
        return isLive(t) && k >= 0 ? at(live[t].stack, live[t].stack.size() - 1L - k, NONE) : NONE;
    }

    private boolean isQueue(int q) {
        return q >= 0 && q < queues.size();
    }

    int queue(int q) {
        return isQueue(q) ? queues.get(q).numbers.size() : -1;
    }

    int queued(int q, int k) {
        return isQueue(q) ? at(queues.get(q).numbers, k, NONE) : NONE;
    }

    int waiter(int q, boolean sends, int k) {
        if (!isQueue(q)) {
            return -1;
        }
        List<Integer> waiting = new ArrayList<>(queues.get(q).receivers);
        if (sends) {
            waiting.clear();
            queues.get(q).senders.forEach(e -> waiting.add(e.task));
        }
        return at(waiting, k, -1);
    }

    int memory(int a) {
        return a >= 0 && a < 16 ? memory[a] : NONE;
    }

    int emitted() {
        return out.size();
    }

    int out(int k) {
        return k >= 0 && k < 32 ? at(out, out.size() - 1L - k, NONE) : NONE;
    }

    int why(int t) {
        return t >= 0 && t < why.length ? why[t] : -1;
    }

    int clock() {
        return clock;
    }
}
