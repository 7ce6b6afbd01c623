import java.io.IOException;
import java.nio.file.Files;
import java.nio.file.Path;

/** The texts that tests read: the program, the documents, and README.md. */
final class Texts {
    private Texts() {
    }

    static String program() throws IOException {
        return Files.readString(project("src/main/java/HallSights.java"));
    }

    /** Without comments, and with one space in place of all that stands between two words. */
    static String programInOneLine() throws IOException {
        return withoutComments(program()).replaceAll("\\s+", " ");
    }

    static String withoutComments(String program) {
        return program.replaceAll("(?s)/\\*.*?\\*/", "").replaceAll("//[^\n]*", "");
    }

    static String readme() throws IOException {
        return Files.readString(project("README.md"));
    }

    static String document() throws IOException {
        return Files.readString(Path.of(System.getProperty("shared", "../shared"), "DOC.md"));
    }

    /** What stands between the first line "```java" of a text and the next line "```". */
    static String[] javaOf(String text) {
        String opening = "```java\n";
        int from = text.indexOf(opening);
        int to = text.indexOf("\n```", from + opening.length());
        return from < 0 || to < 0 ? new String[0]
                : text.substring(from + opening.length(), to).split("\n");
    }

    private static Path project(String file) {
        return Path.of(System.getProperty("project", "."), file);
    }
}
