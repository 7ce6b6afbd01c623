import java.io.IOException;
import java.nio.file.Files;
import java.nio.file.Path;
import java.util.regex.Matcher;
import java.util.regex.Pattern;

/** The program's text keeps those rules of LANGUAGE.md that a look at its words can tell. */
final class LanguageTest {
    /** Each one a rule's number, and what may not stand in the program by it. */
    private static final String[][] RULED_OUT = {
        {"1", "\\b(package|import)\\b"},
        {"2", "->"},
        {"2", "::"},
        {"4", "\\b(Double|Float|Character|Boolean|Byte|Short|Objects|Collections|Map|Set)\\."},
        {"4", "\\w+Exact\\b"},
        {"6", "\\b(finally|synchronized|assert)\\b"},
        {"6", "\\b(equals|hashCode|toString)\\s*\\("},
        {"10", "\"\\s*\\+|\\+\\s*\""},
        {"13", "\\b(Random|Thread|currentTimeMillis|nanoTime|getenv|getProperty|Scanner)\\b"},
        {"13", "System\\.(?!arraycopy\\b)"},
    };
    private static final int MOST_LINES_OF_METHOD = 60;

    private LanguageTest() {
    }

    public static void main(String[] args) throws IOException {
        Path file = Path.of(System.getProperty("project", "."), "src/main/java/HallSights.java");
        String program = Files.readString(file);
        for (int at = 0; at < program.length(); at++) {
            Check.holds("sign " + at + " is ASCII", program.charAt(at) < 128);
        }
        String code = withoutComments(program);
        for (String[] rule : RULED_OUT) {
            Matcher found = Pattern.compile(rule[1]).matcher(code);
            while (found.find()) {
                Check.say("rule " + rule[0] + " rules out '" + found.group() + "'");
            }
        }
        lookAtThrows(code);
        lookAtLengths(program);
        Check.end("LanguageTest");
    }

    private static String withoutComments(String program) {
        return program.replaceAll("(?s)/\\*.*?\\*/", "").replaceAll("//[^\n]*", "");
    }

    private static void lookAtThrows(String code) {
        Matcher thrown = Pattern.compile("\\bthrow\\b([^;]*);").matcher(code);
        Pattern due = Pattern.compile(" new (IllegalArgumentException|IllegalStateException"
                + "|IndexOutOfBoundsException)\\((\"[ -~]*\")?\\)");
        while (thrown.find()) {
            Check.holds("rule 6 allows 'throw" + thrown.group(1) + "'",
                    due.matcher(thrown.group(1)).matches());
        }
    }

    /** Methods of the class stand four spaces in, those of a class inside it eight. */
    private static void lookAtLengths(String program) {
        String[] lines = program.split("\n");
        Pattern head = Pattern.compile("(    |        )(public|private|static|int|long|void|boolean"
                + "|double|[A-Z]\\w*\\()[^;=]*\\(.*|        [A-Z]\\w*\\(.*");
        int start = -1;
        int methods = 0;
        for (int at = 0; at < lines.length; at++) {
            if (head.matcher(lines[at]).matches()) {
                start = at;
                methods++;
            }
            if (lines[at].matches("    (    )?}") && start >= 0) {
                Check.holds("rule 11: the method that ends in line " + (at + 1) + " is short",
                        at - start < MOST_LINES_OF_METHOD);
            }
        }
        Check.holds("the methods were found", methods > 60);
    }
}
