/** Tells every answer that is not the one due, with the line of the test, and ends with 1 if there was one. */
final class Check {
    private static int wrong = 0;
    private static String sentence = "";

    private Check() {
    }

    /** The sentence of the document that what follows is a test of. */
    static void under(String words) {
        sentence = words.isEmpty() ? "" : words + ": ";
    }

    static void due(long got, long want) {
        if (got != want) {
            tell("answered " + got + ", due is " + want);
        }
    }

    static void holds(boolean truth, String words) {
        if (!truth) {
            tell(words);
        }
    }

    static void tell(String words) {
        wrong++;
        StackTraceElement[] stack = new Throwable().getStackTrace();
        StringBuilder where = new StringBuilder();
        for (StackTraceElement e : stack) {
            if (!e.getClassName().equals("Check") && e.getFileName() != null && isTest(e.getFileName())) {
                where.append(e.getFileName()).append(':').append(e.getLineNumber()).append(' ');
            }
        }
        System.out.println(where + sentence + words);
    }

    private static boolean isTest(String file) {
        return file.endsWith("Test.java") || file.endsWith("Edges.java");
    }

    static void end() {
        if (wrong != 0) {
            System.out.println(wrong + " answers are not as due");
            System.exit(1);
        }
    }
}
