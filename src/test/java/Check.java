/** Counts the answers of one test and prints those that are not the ones due. */
final class Check {
    private static final int MOST_PRINTED = 40;
    private static int asked = 0;
    private static int wrong = 0;
    private static String sentence = "";

    private Check() {
    }

    /** What follows is held to this sentence of the document. */
    static void under(String said) {
        sentence = said;
    }

    static void due(String call, long got, long want) {
        count(got == want, call + " answered " + got + ", due is " + want);
    }

    static void holds(String what, boolean so) {
        count(so, what + " does not hold");
    }

    private static void count(boolean right, String fault) {
        asked++;
        if (right) {
            return;
        }
        wrong++;
        if (wrong <= MOST_PRINTED) {
            System.out.println(sentence.isEmpty() ? fault : "[" + sentence + "] " + fault);
        }
    }

    static void end() {
        System.out.println(asked + " answers, " + wrong + " not as due");
        if (asked == 0 || wrong != 0) {
            System.exit(1);
        }
    }
}
