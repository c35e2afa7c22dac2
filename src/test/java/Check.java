/** Counts the answers that are not as due, and ends a test with exit code 1 if there was one. */
final class Check {
    private static int asked = 0;
    private static int wrong = 0;
    private static int sentences = 0;
    private static String about = "";

    private Check() {
    }

    /**
     * The test of one sentence of the document, which is named in front of what is not as due. A
     * throw is a fault of this sentence alone: those behind it are tested all the same.
     */
    static void holds(String sentence, Runnable test) {
        int before = asked;
        about = sentence + ": ";
        try {
            test.run();
        } catch (RuntimeException thrown) {
            fault("threw " + thrown);
        }
        if (asked == before) {
            fault("nothing was asked");
        }
        about = "";
        sentences++;
    }

    static void due(String call, int got, int want) {
        asked++;
        if (got != want) {
            fault(call + " answered " + got + ", due is " + want);
        }
    }

    static void yes(String call, boolean got) {
        due(call, got ? 1 : 0, 1);
    }

    static void no(String call, boolean got) {
        due(call, got ? 1 : 0, 0);
    }

    static void end() {
        String tests = sentences == 0 ? "" : sentences + " sentences, ";
        System.out.println(tests + asked + " answers, " + wrong + " not as due");
        if (wrong != 0 || asked == 0) {
            System.exit(1);
        }
    }

    private static void fault(String text) {
        wrong++;
        System.out.println(about + text);
    }
}
