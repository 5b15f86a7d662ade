/** Compares answers with those that are due, and ends a test with exit code 1 if one was wrong. */
final class Check {
    private static int wrong = 0;
    private static int asked = 0;
    private static String sentence = "";

    private Check() {
    }

    /** A sentence of the document, in its own words, and the test that is its own. */
    static void sentence(String words, Runnable test) {
        int before = asked;
        sentence = "[" + words + "] ";
        try {
            test.run();
        } catch (RuntimeException e) {
            tellWrong("threw " + e);
        }
        if (asked == before) {
            tellWrong("asked nothing");
        }
        sentence = "";
    }

    static void due(String what, long got, long want) {
        asked++;
        if (got != want) {
            tellWrong(what + " answered " + got + ", due is " + want);
        }
    }

    /** The call is due to throw IllegalArgumentException, that very class. */
    static void refused(String what, Runnable call) {
        asked++;
        String thrown = "nothing";
        try {
            call.run();
        } catch (RuntimeException e) {
            thrown = e.getClass().getName();
        }
        if (!thrown.equals("java.lang.IllegalArgumentException")) {
            tellWrong(what + " threw " + thrown + ", due is IllegalArgumentException");
        }
    }

    private static void tellWrong(String how) {
        wrong++;
        System.out.println(sentence + how);
    }

    static void end() {
        if (asked == 0) {
            System.out.println("nothing was asked");
        }
        if (wrong != 0 || asked == 0) {
            System.exit(1);
        }
    }
}
