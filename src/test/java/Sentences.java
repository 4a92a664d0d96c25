import java.io.IOException;
import java.nio.file.Files;
import java.nio.file.Path;
import java.util.BitSet;
import java.util.LinkedHashMap;
import java.util.Map;

/**
 * Tests by the words of the document. Each begins with the words that it asks, which must stand in the part of
 * ../shared/DOC.md that it names; at the end no word of the Terms or of a promise may be left that no test names.
 */
final class Sentences {
    static final String TERMS = "Terms";
    static final int PROMISES = 38;

    private final Check check = new Check("SentencesTest");
    private final Map<String, String> parts = new LinkedHashMap<>();
    private final Map<String, BitSet> named = new LinkedHashMap<>();
    private String sentence = "";
    private int sentences = 0;
    private int answers = 1;

    Sentences(Path document) throws IOException {
        for (String part : Files.readString(document).split("(?m)^## ")) {
            int headEnds = part.indexOf('\n');
            String name = part.substring(0, headEnds).replaceAll(":.*", "").trim();
            parts.put(name, plain(part.substring(headEnds)));
            named.put(name, new BitSet());
        }
    }

    private static String plain(String text) {
        return text.replaceAll("(?m)^(```(text)?|====)", " ").replaceAll("\\s+", " ").trim();
    }

    /** Begins the test of some words of a part. */
    void asks(String part, String words) {
        endOfSentence();
        sentence = part + ", \"" + words + "\"";
        sentences++;
        answers = 0;
        String text = parts.getOrDefault(part, "");
        check.due(sentence + " stands in the document", text.contains(words) ? 1 : 0, 1);
        for (int at = text.indexOf(words); at >= 0; at = text.indexOf(words, at + 1)) {
            named.get(part).set(at, at + words.length());
        }
    }

    void due(String call, long got, long want) {
        answers++;
        check.due(sentence + ": " + call, got, want);
    }

    private void endOfSentence() {
        check.due(sentence + " has answers", answers > 0 ? 1 : 0, 1);
    }

    void end() {
        endOfSentence();
        nothingIsLeftOut(TERMS);
        for (int promise = 1; promise <= PROMISES; promise++) {
            nothingIsLeftOut("Promise " + promise);
        }
        System.out.println("SentencesTest: " + sentences + " sentences");
        check.end();
    }

    private void nothingIsLeftOut(String part) {
        String text = parts.getOrDefault(part, "");
        check.due(part + " stands in the document", text.isEmpty() ? 0 : 1, 1);
        for (int i = 0; i < text.length(); i++) {
            if (Character.isLetterOrDigit(text.charAt(i)) && !named.get(part).get(i)) {
                int end = named.get(part).nextSetBit(i);
                end = end < 0 ? text.length() : end;
                check.due(part + ", without a test: \"" + text.substring(i, end).trim() + "\"", 0, 1);
                i = end;
            }
        }
    }
}
