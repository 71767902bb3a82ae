/** Runs a few words as task 0 of a new kernel, one step each, and looks at what comes of it. */
final class Probe {
    private final Check check;

    Probe(Check check) {
        this.check = check;
    }

    /** The answer of the last of so many steps. */
    static int lastAnswer(TaskKernel kernel, int steps) {
        int answer = -1;
        for (int i = 0; i < steps; i++) {
            answer = kernel.step();
        }
        return answer;
    }

    /** The last of the words must end the task by the trap, and none before it. */
    void dueTrap(String about, int trap, int... words) {
        dueTrapWith(8, about, trap, words);
    }

    void dueTrapWith(int stackRoom, String about, int trap, int... words) {
        TaskKernel x = Words.begunWith(stackRoom, words);
        for (int i = 1; i < words.length; i++) {
            check.due(about + ": before the trap", 0, x.step());
        }
        check.due(about + ": step()", 8 + trap, x.step());
        check.due(about + ": state(0)", 0, x.state(0));
        check.due(about + ": why(0)", 2 + trap, x.why(0));
        check.due(about + ": next()", -1, x.next());
    }

    /** All the words must leave the task ready, and its stack must be this one then, from the top. */
    void dueStack(String about, int[] words, int... fromTop) {
        dueStackWith(8, about, words, fromTop);
    }

    void dueStackWith(int stackRoom, String about, int[] words, int... fromTop) {
        TaskKernel x = Words.begunWith(stackRoom, words);
        for (int i = 0; i < words.length; i++) {
            check.due(about + ": step()", 0, x.step());
        }
        check.due(about + ": height", fromTop.length, x.task(0, 2));
        for (int k = 0; k < fromTop.length; k++) {
            check.due(about + ": number " + k, fromTop[k], x.stack(0, k));
        }
    }
}
