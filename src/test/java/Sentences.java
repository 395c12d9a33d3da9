import java.io.IOException;
import java.nio.file.Files;
import java.nio.file.Path;
import java.util.LinkedHashMap;
import java.util.Map;

/**
 * The sentences of the document's terms and promises: a test quotes the words which it holds. Words that are not in
 * the document, words that no test quotes, and quotes without a check are told as failures.
 */
final class Sentences {
    /** Words that only join others may stay without a quote. */
    private static final int LONGEST_REST = 3;

    private final Map<String, String> sections = new LinkedHashMap<>();
    private final Map<String, boolean[]> quoted = new LinkedHashMap<>();
    private String section = "";
    private String words = "";
    private int checksOfWords = 1;
    private int passed;
    private int failed;

    Sentences(Path document) throws IOException {
        for (String part : Files.readString(document).split("(?m)^## ")) {
            String title = part.lines().findFirst().orElse("");
            if (title.equals("Terms") || title.startsWith("Promise ")) {
                String text = plain(part.substring(title.length()));
                sections.put(title.replaceAll(":.*", ""), text);
                quoted.put(title.replaceAll(":.*", ""), new boolean[text.length()]);
            }
        }
    }

    /** Without the signature that a promise begins with, and in one line. */
    private static String plain(String text) {
        return text.replaceAll("```(text)?", " ").replaceAll("`[^`]*`: ", " ").replaceAll("\\s+", " ").trim();
    }

    void in(String newSection) {
        section = newSection;
    }

    /** What is checked from now on holds these words. */
    void quote(String newWords) {
        endQuote();
        words = newWords;
        checksOfWords = 0;
        String text = sections.getOrDefault(section, "");
        int from = text.indexOf(words);
        if (from < 0) {
            fail("not in the document: " + words);
        }
        for (int i = from; i >= 0 && i < from + words.length(); i++) {
            quoted.get(section)[i] = true;
        }
    }

    private void endQuote() {
        if (checksOfWords == 0) {
            fail("no check of: " + words);
        }
    }

    void due(String call, int got, int want) {
        checksOfWords++;
        if (got == want) {
            passed++;
        } else {
            fail("\"" + words + "\": " + call + " answered " + got + ", due is " + want);
        }
    }

    void due(String call, boolean got, boolean want) {
        due(call, got ? 1 : 0, want ? 1 : 0);
    }

    void same(String call, String got, String want) {
        checksOfWords++;
        if (got.equals(want)) {
            passed++;
        } else {
            fail("\"" + words + "\": after " + call + " it is\n  " + got + "\ninstead of\n  " + want);
        }
    }

    private void fail(String what) {
        failed++;
        System.out.println(section + ": " + what);
    }

    boolean allHold() {
        endQuote();
        for (String name : sections.keySet()) {
            section = name;
            failUnquoted(sections.get(name), quoted.get(name));
        }
        System.out.println("SentenceTests: " + passed + " passed, " + failed + " failed");
        return failed == 0 && sections.size() == 34;
    }

    private void failUnquoted(String text, boolean[] isQuoted) {
        int from = 0;
        for (int i = 0; i <= text.length(); i++) {
            if (i == text.length() || isQuoted[i]) {
                String rest = text.substring(from, i).trim();
                if (rest.length() > LONGEST_REST) {
                    fail("no test quotes: " + rest);
                }
                from = i + 1;
            }
        }
    }
}
