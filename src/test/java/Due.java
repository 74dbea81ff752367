import java.io.IOException;
import java.nio.file.Files;
import java.nio.file.Path;

/** Compares answers with those that are due, and ends a test. */
final class Due {
    private final String test;
    private int checked = 0;
    private int wrong = 0;
    private String document = null;
    private String sentence = "";
    private int checkedBefore = 0;

    Due(String test) {
        this.test = test;
    }

    /** Begins the checks of a sentence: its words must stand in the document, and something be checked. */
    void sentence(String words) {
        endSentence();
        if (!document().contains(words)) {
            wrong++;
            System.out.println(test + ": the document doesn't say '" + words + "'");
        }
        sentence = " ('" + words + "')";
        checkedBefore = checked;
    }

    private void endSentence() {
        if (!sentence.isEmpty() && checked == checkedBefore) {
            wrong++;
            System.out.println(test + ": nothing is checked" + sentence);
        }
    }

    String document() {
        if (document == null) {
            try {
                document = Files.readString(Path.of(System.getProperty("heatbills.document", "../shared/DOC.md")));
            } catch (IOException e) {
                document = "";
                System.out.println(test + ": the document can't be read: " + e.getMessage());
            }
        }
        return document;
    }

    void is(String call, long got, long want) {
        checked++;
        if (got != want) {
            wrong++;
            System.out.println(test + ": " + call + " answered " + got + ", due is " + want + sentence);
        }
    }

    void holds(String what, boolean truth) {
        is(what, truth ? 1 : 0, 1);
    }

    void end() {
        endSentence();
        System.out.println(test + ": " + checked + " checked, " + wrong + " wrong");
        if (wrong != 0 || checked == 0) {
            System.exit(1);
        }
    }
}
