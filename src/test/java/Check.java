import java.io.IOException;
import java.io.UncheckedIOException;
import java.nio.file.Files;
import java.nio.file.Path;

/** Counts and prints the answers that are not as due. */
final class Check {
    interface Call {
        long answer();
    }

    private static final Path DOCUMENT = Path.of("../shared/DOC.md");

    private int wrong;
    private int checked;
    private String document = "";
    private String sentence = "";

    /** What is checked from here on stands under this sentence, which must be one of the document's. */
    void about(String words) {
        if (document.isEmpty()) {
            document = readDocument();
        }
        sentence = "";
        due("the document has \"" + words + "\"", document.contains(words) ? 1 : 0, 1);
        sentence = "\"" + words + "\": ";
    }

    private static String readDocument() {
        try {
            return Files.readString(DOCUMENT);
        } catch (IOException e) {
            throw new UncheckedIOException(e);
        }
    }

    void due(String what, long got, long want) {
        dueText(what, Long.toString(got), Long.toString(want));
    }

    void dueText(String what, String got, String want) {
        checked++;
        if (!got.equals(want)) {
            wrong++;
            System.out.println(sentence + what + " answered " + got + ", due is " + want);
        }
    }

    void illegalArgument(String what, Call call) {
        dueText(what, told(call), "throws.IllegalArgumentException");
    }

    void illegalState(String what, Call call) {
        dueText(what, told(call), "throws.IllegalStateException");
    }

    /** The answer of a call as a text, also when it throws. */
    static String told(Call call) {
        try {
            return Long.toString(call.answer());
        } catch (RuntimeException e) {
            return "throws." + e.getClass().getSimpleName();
        }
    }

    void finish() {
        System.out.println(checked + " checked, " + wrong + " wrong");
        if (wrong != 0) {
            System.exit(1);
        }
    }
}
