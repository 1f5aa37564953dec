/** Counts what went wrong, under the sentence of the document that is tested. */
final class Report {
    private static final int TOLD_PER_SENTENCE = 5;

    private static String sentence = "";
    private static int tests = 0;
    private static int broken = 0;
    private static int wrongHere = 0;

    private Report() { }

    /** Tests one sentence; an exception breaks it, as no call of the document throws. */
    static void sentence(String where, String words, Runnable test) {
        sentence = where + ": \"" + words + "\"";
        tests++;
        wrongHere = 0;
        try {
            test.run();
        } catch (RuntimeException e) {
            wrong("threw " + e + " at " + (e.getStackTrace().length > 0 ? e.getStackTrace()[0] : "?"));
        }
        if (wrongHere > 0) {
            broken++;
        }
    }

    static void wrong(String what) {
        if (wrongHere == 0) {
            System.out.println(sentence);
        }
        wrongHere++;
        if (wrongHere <= TOLD_PER_SENTENCE) {
            System.out.println("    " + what);
        }
    }

    static void end() {
        System.out.println(tests + " tests, each of one sentence: " + broken + " failed");
        if (broken != 0 || tests == 0) {
            System.exit(1);
        }
    }
}
