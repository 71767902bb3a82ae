/** Counts the answers that are not the ones due, and prints each of them. */
final class Check {
    private final String about;
    private String sentence = "";
    private int lookedBefore = 0;
    private int wrong = 0;
    private int looked = 0;

    Check(String about) {
        this.about = about;
    }

    /** The answers from here on are about this sentence of the document; one that nothing is asked about is wrong. */
    void sentence(String quoted) {
        closeSentence();
        sentence = quoted;
        lookedBefore = looked;
    }

    void due(String call, long want, long got) {
        looked++;
        if (got != want) {
            wrong++;
            String quoted = sentence.isEmpty() ? "" : " (\"" + sentence + "\")";
            System.out.println(about + ": " + call + " answered " + got + ", due is " + want + quoted);
        }
    }

    void due(String call, boolean want, boolean got) {
        due(call, want ? 1L : 0L, got ? 1L : 0L);
    }

    void finish() {
        closeSentence();
        System.out.println(looked + " answers looked at, " + wrong + " not as due");
        if (wrong != 0 || looked == 0) {
            System.exit(1);
        }
    }

    private void closeSentence() {
        if (!sentence.isEmpty() && looked == lookedBefore) {
            wrong++;
            System.out.println(about + ": nothing was asked about \"" + sentence + "\"");
        }
    }
}
