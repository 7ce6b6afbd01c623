import java.io.IOException;
import java.util.regex.Matcher;
import java.util.regex.Pattern;

/** The program's text keeps those rules of LANGUAGE.md that a look at its words can tell. */
final class LanguageTest {
    /** Each one a rule's number, and what may not stand in the program by it. */
    private static final String[][] RULED_OUT = {
        {"1", "\\bpackage\\b"},
        {"2", "(?m)^(?!\\s*(?:case\\b|default\\b)).*->"},
        {"2", "::"},
        {"3", "\\bMath\\.(sqrt|pow|floor|ceil|round|rint|sin|cos|tan|exp|log|random)\\b"},
        {"4", "\\bimport (?!java\\.util\\.(ArrayList|List|Iterator|Arrays|NoSuchElementException);)"},
        {"4", "\\b(Double|Float|Character|Boolean|Byte|Short|Objects|Collections|Map|Set)\\."},
        {"4", "\\w+Exact\\b"},
        {"5", "\\bstatic\\s*\\{"},
        {"6", "\\b(finally|synchronized|assert|hashCode|getMessage)\\b"},
        {"10", "\"\\s*\\+|\\+\\s*\""},
        {"12", "(?m)^    (?:    )?(?:(?:private|final) )+\\w+ \\w+ = new \\w+\\([a-z]"},
        {"13", "\\b(Random|Thread|currentTimeMillis|nanoTime|getenv|getProperty|Scanner)\\b"},
        {"13", "System\\.(?!arraycopy\\b)"},
    };
    private static final int MOST_LINES_OF_METHOD = 60;
    private static final int METHODS_OF_FACE = 30;

    private LanguageTest() {
    }

    public static void main(String[] args) throws IOException {
        String program = Texts.program();
        String code = Texts.withoutComments(program);
        for (String[] rule : RULED_OUT) {
            Matcher found = Pattern.compile(rule[1]).matcher(code);
            while (found.find()) {
                Check.say("rule " + rule[0] + " rules out '" + found.group() + "'");
            }
        }
        lookAtSigns(code);
        lookAtThrows(code);
        lookAtLengths(program);
        Check.end("LanguageTest");
    }

    /** Rule 4: the signs of constants are 1 to 127. */
    private static void lookAtSigns(String code) {
        for (int at = 0; at < code.length(); at++) {
            Check.holds("sign " + at + " of the code is 1 to 127",
                    code.charAt(at) >= 1 && code.charAt(at) <= 127);
        }
    }

    /** Rule 6, and the document: only these exceptions stand behind a throws of its face. */
    private static void lookAtThrows(String code) {
        Matcher thrown = Pattern.compile("\\bthrow\\b([^;]*);").matcher(code);
        Pattern due = Pattern.compile(" new (IllegalArgumentException|IllegalStateException"
                + "|IndexOutOfBoundsException)\\((\"[ -~]*\")?\\)");
        while (thrown.find()) {
            Check.holds("rule 6 allows 'throw" + thrown.group(1) + "'",
                    due.matcher(thrown.group(1)).matches());
        }
    }

    /** Methods of the class stand four spaces in, those of a class inside it eight. */
    private static void lookAtLengths(String program) {
        String[] lines = program.split("\n");
        Pattern head = Pattern.compile("(    |        )(public|private|static|int|long|void|boolean"
                + "|double|[A-Z]\\w*\\()[^;=]*\\(.*|        [A-Z]\\w*\\(.*");
        int start = -1;
        int methods = 0;
        for (int at = 0; at < lines.length; at++) {
            if (head.matcher(lines[at]).matches()) {
                start = at;
                methods++;
            }
            if (lines[at].matches("    (    )?}") && start >= 0) {
                Check.holds("rule 11: the method that ends in line " + (at + 1) + " is short",
                        at - start < MOST_LINES_OF_METHOD);
            }
        }
        Check.holds("the methods were found", methods >= METHODS_OF_FACE);
    }
}
