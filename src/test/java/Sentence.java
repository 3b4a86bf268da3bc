import java.io.IOException;
import java.nio.file.Files;
import java.nio.file.Path;

/** The document's Terms and promises, cut into sentences: each has a test of its own, and none is left without. */
final class Sentence {
    private static final Path DOCUMENT = Path.of("../shared/DOC.md");
    private static final String TEXT = read();
    private static final boolean[] QUOTED = new boolean[TEXT.length()];

    private Sentence() {
    }

    /** Runs the test of a sentence, which has to stand in the document once, word for word. */
    static void says(String quote, Runnable test) {
        quote(quote);
        int before = Check.looked();
        Check.about(quote);
        try {
            test.run();
        } catch (RuntimeException e) {
            Check.same("its test threw " + e + " at " + e.getStackTrace()[0], 1, 0);
        }
        Check.same("its test looked at something", Check.looked() > before ? 1 : 0, 1);
        Check.about("");
    }

    /** No word of the document is left without a test. */
    static void allAreQuoted() {
        if (TEXT.isEmpty()) {
            System.out.println("no " + DOCUMENT + ": not looked whether each sentence has a test");
            return;
        }
        for (int i = 0; i < QUOTED.length; i++) {
            if (!QUOTED[i] && Character.isLetterOrDigit(TEXT.charAt(i))) {
                Check.same("no test of: " + TEXT.substring(i, Math.min(TEXT.length(), i + 60)), 1, 0);
                while (i < QUOTED.length && !QUOTED[i]) {
                    i++;
                }
            }
        }
    }

    private static void quote(String quote) {
        if (TEXT.isEmpty()) {
            return;
        }
        int at = TEXT.indexOf(quote);
        boolean once = at >= 0 && TEXT.indexOf(quote, at + 1) < 0;
        Check.same("stands once in the document: " + quote, once ? 1 : 0, 1);
        for (int i = at; at >= 0 && i < at + quote.length(); i++) {
            QUOTED[i] = true;
        }
    }

    /** From the Terms to the last promise, without headings, fences and the face's lines. */
    private static String read() {
        if (!Files.exists(DOCUMENT)) {
            return "";
        }
        try {
            String all = Files.readString(DOCUMENT);
            String part = all.substring(all.indexOf("## Terms"), all.indexOf("## Not promised"));
            return part.replaceAll("(?m)^(##|```).*$", "").replaceAll("(?m)^`[^`]*`: ", "").replaceAll("==== \\d\\. ", "")
                .replaceAll("\\s+", " ").trim();
        } catch (IOException e) {
            throw new IllegalStateException(e);
        }
    }
}
