/** Compares answers with those that are due, and ends a test with exit code 1 if one differed. */
final class Check {
    private String sentence = "";
    private int wrong;

    /** The document's sentence, nearly in its words, that the next answers hold to: told with a wrong one. */
    void sentence(String words) {
        sentence = "[" + words + "] ";
    }

    void due(String call, long got, long want) {
        if (got != want) {
            wrong++;
            System.out.println(sentence + call + " answered " + got + ", due is " + want);
        }
    }

    void traceDue(String call, PostRates office, int... want) {
        due(call + ": count(2)", office.count(2), want.length);
        for (int i = 0; i < want.length; i++) {
            due(call + ": trace(" + i + ")", office.trace(i), want[i]);
        }
        due(call + ": trace behind the last", office.trace(want.length), PostRates.BAD);
    }

    void end() {
        System.out.println(wrong == 0 ? "all answers are as due" : wrong + " answers are not as due");
        if (wrong != 0) {
            System.exit(1);
        }
    }
}
