/** Holds answers against those that are due; a test ends with done(). */
final class Due {
    private final String test;
    private String sentence = "";
    private int asked = 0;
    private int wrong = 0;

    Due(String test) {
        this.test = test;
    }

    /** The words of the document that the next answers hold; of promise 0: those of its terms. */
    void sentence(int promise, String words) {
        sentence = " [" + promise + ": " + words + "]";
    }

    void be(String call, long got, long want) {
        asked++;
        if (got != want) {
            wrong++;
            System.out.println(test + sentence + ": " + call + " answered " + got + ", due is " + want);
        }
    }

    /** A call that is refused by a finding, and which one. */
    void find(String call, TalePlay play, long got, int finding) {
        be(call, got, TalePlay.FINDING);
        be(call + " finding()", play.finding(), finding);
    }

    void done() {
        System.out.println(test + ": " + asked + " answers, " + wrong + " not as due");
        if (wrong != 0) {
            System.exit(1);
        }
    }
}
