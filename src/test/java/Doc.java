import java.io.IOException;
import java.io.UncheckedIOException;
import java.nio.file.Files;
import java.nio.file.Path;
import java.util.BitSet;

/** The document: a test is run under the sentence that it holds, and no sentence may be left without a test. */
final class Doc {
    interface Test {
        void run();
    }

    static final String TERMS = "## Terms", RESULTS = "======== 2 RESULTS.", MONEY = "======== 3 MONEY.",
            FINDINGS = "======== 4 ", USE = "## What it is";
    private static final int PROMISES = 50;
    private static final String TEXT = read();
    private static final BitSet QUOTED = new BitSet();

    private Doc() {
    }

    private static String read() {
        try {
            return Files.readString(Path.of(System.getProperty("shared", "../shared"), "DOC.md"));
        } catch (IOException e) {
            throw new UncheckedIOException(e);
        }
    }

    static void promise(int number, String sentence, Test test) {
        holds("## Promise " + number + ": ", sentence, test);
    }

    /** Runs a test of a sentence that stands behind a heading of the document. */
    static void holds(String heading, String sentence, Test test) {
        Check.under(heading.replaceAll("[#=:]", "").trim() + ", \"" + sentence + "\"");
        quote(heading, sentence);
        test.run();
        Check.under("");
    }

    /** What is told more than once in a section is quoted one by one, in the document's order. */
    private static void quote(String heading, String sentence) {
        int start = TEXT.indexOf(heading);
        int end = endOf(start);
        boolean found = false;
        int at = start < 0 ? -1 : TEXT.indexOf(sentence, start);
        while (at >= 0 && at + sentence.length() <= end) {
            found = true;
            if (QUOTED.nextClearBit(at) < at + sentence.length()) {
                QUOTED.set(at, at + sentence.length());
                return;
            }
            at = TEXT.indexOf(sentence, at + 1);
        }
        Check.holds(found, "the document does not say so there");
    }

    private static int endOf(int start) {
        int end = TEXT.length();
        for (String next : new String[] {"\n## ", "\n======== ", "\nAhead of the calls"}) {
            int at = TEXT.indexOf(next, start + 1);
            end = at >= 0 && at < end ? at : end;
        }
        return end;
    }

    /** Every word of the terms and the promises stands in a sentence that a test was run under. */
    static void isAllQuoted() {
        for (String heading : new String[] {TERMS, RESULTS, MONEY, FINDINGS}) {
            isQuoted(heading);
        }
        for (int number = 1; number <= PROMISES; number++) {
            isQuoted("## Promise " + number + ": ");
        }
        Check.holds(!TEXT.contains("## Promise " + (PROMISES + 1) + ": "), "there are more promises than these");
    }

    private static void isQuoted(String heading) {
        int start = TEXT.indexOf(heading);
        Check.holds(start >= 0, heading + " is not in the document");
        int line = start;
        int end = endOf(start);
        while (start >= 0 && line < end) {
            int next = TEXT.indexOf('\n', line);
            next = next < 0 ? TEXT.length() : next;
            int from = line + headLength(TEXT.substring(line, next));
            StringBuilder left = new StringBuilder();
            for (int at = from; at < next; at++) {
                left.append(QUOTED.get(at) ? ' ' : TEXT.charAt(at));
            }
            String words = left.toString().replaceAll("\\s+", " ").trim();
            Check.holds(!words.matches(".*[A-Za-z0-9].*"), heading + ": no test holds " + words);
            line = next + 1;
        }
    }

    /** How much of a line is no sentence: headings, fences, the call's form. */
    private static int headLength(String line) {
        if (line.startsWith("## ") || line.startsWith("```")) {
            return line.length();
        }
        if (line.startsWith("========")) {
            int dot = line.indexOf(". ");
            return line.startsWith(FINDINGS) ? FINDINGS.length() : dot < 0 ? line.length() : dot;
        }
        return line.startsWith("`") ? line.indexOf("`: ") + 2 : 0;
    }

    /** What a promise's section says, without its heading and the call's form. */
    static String textOf(int promise) {
        int start = TEXT.indexOf("## Promise " + promise + ": ");
        String section = TEXT.substring(start, endOf(start));
        return section.substring(section.indexOf("`: ") + 3).trim();
    }
}
