/** Tells every answer that is not the one due, with the line of the test, and ends with 1 if there was one. */
final class Check {
    private static int wrong = 0;

    private Check() {
    }

    static void due(long got, long want) {
        if (got != want) {
            tell("answered " + got + ", due is " + want);
        }
    }

    static void holds(boolean truth, String words) {
        if (!truth) {
            tell(words);
        }
    }

    static void tell(String words) {
        wrong++;
        StackTraceElement[] stack = new Throwable().getStackTrace();
        StringBuilder where = new StringBuilder();
        for (StackTraceElement e : stack) {
            if (!e.getClassName().equals("Check") && e.getFileName() != null && e.getFileName().endsWith("Test.java")) {
                where.append(e.getFileName()).append(':').append(e.getLineNumber()).append(' ');
            }
        }
        System.out.println(where + words);
    }

    static void end() {
        if (wrong != 0) {
            System.out.println(wrong + " answers are not as due");
            System.exit(1);
        }
    }
}
