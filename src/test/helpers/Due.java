/** Counts the answers that are not as due, for a test that is one main method. */
final class Due {
    private static int tests = 0;
    private static int wrong = 0;
    private static String sentence = "";

    private Due() {
    }

    /** Runs one test; the sentence of the document that it is for stands before every fault it finds. */
    static void test(String words, Runnable body) {
        tests++;
        sentence = words;
        body.run();
    }

    static void equal(String what, long got, long want) {
        if (got != want) {
            fault(what + " answered " + got + ", due is " + want);
        }
    }

    static void fault(String text) {
        wrong++;
        System.out.println("[" + sentence + "] " + text);
    }

    static void end() {
        System.out.println(tests + " tests, " + wrong + " answers not as due");
        if (wrong != 0 || tests == 0) {
            System.exit(1);
        }
    }
}
