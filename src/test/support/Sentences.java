import java.io.IOException;
import java.nio.file.Files;
import java.nio.file.Path;

/**
 * What a part of the document says, sentence by sentence, and the answers that are due for each.
 * A sentence that nobody checks, and a quoted one that the document doesn't have, count as wrong.
 */
final class Sentences {
    private static final Path DOCUMENT = Path.of("../shared/DOC.md");

    private final String part;
    private final boolean[] quoted;
    private String sentence = "";
    private int checks;
    private int allChecks;
    private int wrong;

    Sentences(String from, String to) {
        part = read(from, to);
        quoted = new boolean[part.length()];
    }

    private static String read(String from, String to) {
        String all;
        try {
            all = Files.exists(DOCUMENT) ? Files.readString(DOCUMENT) : "";
        } catch (IOException e) {
            throw new IllegalStateException(e);
        }
        int begin = all.indexOf(from);
        int end = all.indexOf(to, Math.max(0, begin));
        return begin < 0 || end < 0 ? "" : plain(all.substring(begin + from.length(), end));
    }

    /** Without the marks of Markdown, and without the heads of promises, which are the face alone. */
    private static String plain(String text) {
        String bare = text.replaceAll("(?m)^```.*$", "").replaceAll("(?m)^## Promise .*$", "").replaceAll("(?m)^`[^`]*\\)`:", "");
        return bare.replaceAll("\\s+", " ").trim();
    }

    /** The checks from here on are for this sentence. */
    void says(String words) {
        endSentence();
        sentence = plain(words);
        checks = 0;
        int at = part.indexOf(sentence);
        if (at >= 0) {
            for (int i = at; i < at + sentence.length(); i++) {
                quoted[i] = true;
            }
        } else if (!part.isEmpty()) {
            wrong++;
            System.out.println("the document doesn't say: " + sentence);
        }
    }

    private void endSentence() {
        if (!sentence.isEmpty() && checks == 0) {
            wrong++;
            System.out.println("nothing is checked for: " + sentence);
        }
    }

    void due(String what, int got, int want) {
        checks++;
        allChecks++;
        if (got != want) {
            wrong++;
            System.out.println("\"" + sentence + "\", " + what + ": answered " + got + ", due is " + want);
        }
    }

    /** Ends the test: with exit code 1, if something was wrong. */
    void close() {
        endSentence();
        StringBuilder rest = new StringBuilder();
        for (int i = 0; i < quoted.length; i++) {
            rest.append(quoted[i] ? '\n' : part.charAt(i));
        }
        for (String words : rest.toString().split("\n")) {
            if (!words.isBlank()) {
                wrong++;
                System.out.println("not quoted: " + words.trim());
            }
        }
        System.out.println(wrong == 0 ? allChecks + " answers are as the document says" : wrong + " are wrong");
        if (wrong != 0) {
            System.exit(1);
        }
    }
}
