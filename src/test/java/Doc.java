import java.io.IOException;
import java.io.UncheckedIOException;
import java.nio.file.Files;
import java.nio.file.Path;
import java.util.ArrayList;
import java.util.List;
import java.util.Set;
import java.util.TreeSet;

/**
 * The document's words: a test names the sentence that it is of, word by word, and what no test has named is told.
 */
final class Doc {
    private static final Path PATH = Path.of("../shared/DOC.md");
    private static final String ALL = read();
    private static final String TEXT = promised();
    private static final boolean[] NAMED = new boolean[TEXT.length()];

    private Doc() {
    }

    /** Names the sentence of the checks that follow. */
    static void says(String words) {
        Kit.sentence = words;
        int at = firstNotNamed(words);
        if (at < 0) {
            boolean said = TEXT.isEmpty() || TEXT.contains(words);
            Kit.due("whether the document says so", "yes", said ? "yes" : "no");
            return;
        }
        for (int i = at; i < at + words.length(); i++) {
            NAMED[i] = true;
        }
    }

    /** Every word of the Terms and of the promises was named by a test. */
    static void close() {
        Kit.sentence = "";
        for (String words : notNamed()) {
            Kit.due("tests that name '" + words + "'", "some", "none");
        }
    }

    private static int firstNotNamed(String words) {
        int at = TEXT.indexOf(words);
        while (at >= 0 && NAMED[at]) {
            at = TEXT.indexOf(words, at + 1);
        }
        return at;
    }

    private static List<String> notNamed() {
        List<String> found = new ArrayList<>();
        StringBuilder words = new StringBuilder();
        for (int i = 0; i <= TEXT.length(); i++) {
            if (i < TEXT.length() && !NAMED[i]) {
                words.append(TEXT.charAt(i));
            } else {
                if (words.toString().matches(".*[A-Za-z0-9].*")) {
                    found.add(words.toString().trim());
                }
                words.setLength(0);
            }
        }
        return found;
    }

    /** What the document's face declares, line by line; nothing if there is no document. */
    static Set<String> face() {
        Set<String> lines = new TreeSet<>();
        for (String line : ALL.split("\n")) {
            if (line.startsWith("    public ")) {
                lines.add(line.trim().replace(";", ""));
            }
        }
        return lines;
    }

    /** What the document promises, in one line, without its headings and the face's declarations. */
    private static String promised() {
        if (ALL.isEmpty()) {
            return "";
        }
        int use = ALL.indexOf("An object is used");
        String terms = ALL.substring(ALL.indexOf("## Terms"), ALL.indexOf("## Not promised"));
        return (ALL.substring(use, ALL.indexOf('\n', use)) + "\n" + terms)
            .replaceAll("(?m)^(##|```).*$", " ").replaceAll("(?m)^==== [0-9]\\.", " ")
            .replaceAll("`[^`]*`:", " ").replaceAll("\\s+", " ");
    }

    private static String read() {
        if (!Files.exists(PATH)) {
            System.out.println("no " + PATH + ": the sentences are not looked up in it");
            return "";
        }
        try {
            return Files.readString(PATH);
        } catch (IOException e) {
            throw new UncheckedIOException(e);
        }
    }
}
