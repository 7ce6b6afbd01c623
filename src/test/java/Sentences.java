import java.io.IOException;
import java.nio.file.Files;
import java.nio.file.Path;
import java.util.LinkedHashMap;
import java.util.Map;
import java.util.regex.Matcher;
import java.util.regex.Pattern;

/**
 * Sentences of the document, each with a test of its own. A sentence that does not stand in the
 * named part of the document is a fault, and so is one there that no test names.
 */
final class Sentences {
    interface Test {
        void run();
    }

    /** A part's text, and which of its characters were named by tests. */
    private static final class Part {
        final String text;
        final boolean[] named;

        Part(String text) {
            this.text = text;
            this.named = new boolean[text.length()];
        }
    }

    private static final Pattern HEADING = Pattern.compile("#+ ([^:]*).*");
    /** Where one sentence ends; what stands between semicolons counts as a sentence too. */
    private static final Pattern END = Pattern.compile("(?<=\\.|\\.\\)|;)\\s|\n");

    private static final Map<String, Part> PARTS = new LinkedHashMap<>();
    private static String name;
    private static int tests;

    private Sentences() {
    }

    /** Reads what stands below each heading that the tests are about. */
    static void read() throws IOException {
        StringBuilder text = new StringBuilder();
        String heading = "";
        for (String line : Files.readAllLines(
                Path.of(System.getProperty("shared", "../shared"), "DOC.md"))) {
            Matcher matcher = HEADING.matcher(line);
            if (matcher.matches()) {
                PARTS.put(heading, new Part(text.toString()));
                heading = matcher.group(1);
                text.setLength(0);
            } else {
                text.append(line).append('\n');
            }
        }
        PARTS.put(heading, new Part(text.toString()));
        PARTS.keySet().removeIf(part -> part.isEmpty() || part.equals("HallSights")
                || part.equals("The public face") || part.equals("Not promised"));
    }

    /** The tests that follow are of sentences in this part. */
    static void part(String next) {
        name = next;
        Check.holds("the document has the part " + next, PARTS.containsKey(next));
    }

    /** Runs the test; what it finds wrong is told with the part and the sentence. */
    static void test(String sentence, Test test) {
        tests++;
        Check.within(name + ", \"" + sentence + "\"");
        Part part = PARTS.get(name);
        int from = part == null ? -1 : part.text.indexOf(sentence);
        Check.holds("that the document has this sentence", from >= 0);
        for (int at = from; from >= 0 && at < from + sentence.length(); at++) {
            part.named[at] = true;
        }
        try {
            test.run();
        } catch (RuntimeException thrown) {
            Check.say("the test was stopped by " + thrown);
        }
        Check.within("");
    }

    /** Tells which sentences no test has named. */
    static void end() {
        for (Map.Entry<String, Part> entry : PARTS.entrySet()) {
            String text = entry.getValue().text;
            int start = 0;
            Matcher ends = END.matcher(text);
            while (ends.find()) {
                lookForName(entry.getKey(), entry.getValue(), start, ends.start());
                start = ends.end();
            }
        }
        System.out.println(tests + " tests of sentences");
    }

    private static void lookForName(String heading, Part part, int from, int to) {
        boolean found = part.text.substring(from, to).isBlank();
        for (int at = from; at < to; at++) {
            found |= part.named[at];
        }
        Check.holds("a test names the sentence \"" + part.text.substring(from, to) + "\" of "
                + heading, found);
    }
}
