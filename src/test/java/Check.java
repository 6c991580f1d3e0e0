import java.util.Map;

/** Counts and prints answers that are not the due ones; every test of the project uses it. */
final class Check {
    private final String test;
    private String sentence = "";
    private int wrong;
    private int asked;

    Check(String test) {
        this.test = test;
    }

    /** What is asked from now on belongs to a sentence of the document; it is printed with what is wrong. */
    void begin(String ofSentence) {
        sentence = " " + ofSentence;
    }

    void due(String call, long got, long want) {
        asked++;
        if (got != want) {
            wrong++;
            System.out.println(test + sentence + ": " + call + " answered " + got + ", due is " + want);
        }
    }

    void holds(String what, boolean so) {
        asked++;
        if (!so) {
            wrong++;
            System.out.println(test + sentence + ": does not hold: " + what);
        }
    }

    /** Two readings of the same calls. */
    void same(String when, Map<String, Long> got, Map<String, Long> want) {
        holds(when + ": as many answers can be read", got.size() == want.size());
        want.forEach((call, due) -> due(when + ": " + call, got.getOrDefault(call, 0L), due));
    }

    /** Ends the program, with exit code 1 if an answer was wrong. */
    void end() {
        System.out.println(test + ": " + asked + " answers, " + wrong + " wrong");
        System.exit(wrong == 0 ? 0 : 1);
    }
}
