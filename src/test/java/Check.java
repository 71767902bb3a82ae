/** Counts the answers that are not the ones due, and prints each of them. */
final class Check {
    private final String about;
    private int wrong = 0;
    private int looked = 0;

    Check(String about) {
        this.about = about;
    }

    void due(String call, long want, long got) {
        looked++;
        if (got != want) {
            wrong++;
            System.out.println(about + ": " + call + " answered " + got + ", due is " + want);
        }
    }

    void due(String call, boolean want, boolean got) {
        due(call, want ? 1L : 0L, got ? 1L : 0L);
    }

    void finish() {
        System.out.println(looked + " answers looked at, " + wrong + " not as due");
        if (wrong != 0 || looked == 0) {
            System.exit(1);
        }
    }
}
