/** Holds answers against those that are due; a test ends with done(). */
final class Due {
    private final String test;
    private int asked = 0;
    private int wrong = 0;

    Due(String test) {
        this.test = test;
    }

    void be(String call, long got, long want) {
        asked++;
        if (got != want) {
            wrong++;
            System.out.println(test + ": " + call + " answered " + got + ", due is " + want);
        }
    }

    /** A call that is refused by a finding, and which one. */
    void find(String call, TalePlay play, long got, int finding) {
        be(call, got, TalePlay.FINDING);
        be(call + " finding()", play.finding(), finding);
    }

    void done() {
        System.out.println(test + ": " + asked + " answers, " + wrong + " not as due");
        if (wrong != 0) {
            System.exit(1);
        }
    }
}
