import java.io.IOException;
import java.nio.file.Files;
import java.nio.file.Path;

/** Counts the answers of one test that are not as due, and tells with each what it belongs to. */
final class Checks {
    private static final Path DOCUMENT = Path.of("../shared/DOC.md");

    private final String document = read();
    private String about = "";
    private int sentences = 0;
    private int asked = 0;
    private int wrong = 0;

    /** What is asked from here on stands for this sentence of the document, as this promise shows it. */
    void about(int promise, String sentence) {
        sentences++;
        about = "promise " + promise + ", \"" + sentence + "\": ";
        if (!document.isEmpty()) {
            due("the document says so", document.contains(sentence), true);
        }
    }

    void due(String what, long got, long want) {
        asked++;
        if (got != want) {
            wrong++;
            System.out.println(about + what + " answered " + got + ", due is " + want);
        }
    }

    void due(String what, boolean got, boolean want) {
        due(what, got ? 1 : 0, want ? 1 : 0);
    }

    int wrong() {
        return wrong;
    }

    /** Ends the program, with exit code 1 where an answer was wrong. */
    void finish() {
        String told = sentences == 0 ? "" : sentences + " sentences, ";
        System.out.println(told + asked + " answers, " + wrong + " not as due");
        System.exit(wrong == 0 && asked > 0 ? 0 : 1);
    }

    private static String read() {
        try {
            return Files.exists(DOCUMENT) ? Files.readString(DOCUMENT).replaceAll("\\s+", " ") : "";
        } catch (IOException e) {
            return "";
        }
    }
}
