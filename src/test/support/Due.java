/** Compares answers with those that are due, and ends a test with exit code 1 if one was not. */
final class Due {
    private static int wrong = 0;
    private static int seen = 0;
    private static String sentence = "";

    private Due() {
    }

    /** The words of the document that the next answers are held against; they are told with what is wrong. */
    static void says(String words) {
        sentence = words;
    }

    static void is(String call, long got, long want) {
        seen++;
        if (got != want) {
            wrong++;
            String where = sentence.isEmpty() ? "" : " (\"" + sentence + "\")";
            System.out.println(call + " answered " + got + ", due is " + want + where);
        }
    }

    static void is(String call, boolean got, boolean want) {
        is(call, got ? 1 : 0, want ? 1 : 0);
    }

    static boolean isAnyWrong() {
        return wrong > 0;
    }

    static void end() {
        System.out.println(wrong == 0 ? seen + " answers are as due" : wrong + " answers are not as due");
        if (wrong != 0) {
            System.exit(1);
        }
    }
}
