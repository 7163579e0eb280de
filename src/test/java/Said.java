import java.io.IOException;
import java.nio.file.Files;
import java.nio.file.Path;
import java.util.LinkedHashMap;
import java.util.Map;

/**
 * The document's sentences, each with the answers that hold it. A sentence is told in the document's own
 * words, so that one that is not there, one without an answer, and words that nobody told are found.
 */
final class Said {
    private static final Path DOCUMENT = Path.of("../shared/DOC.md");
    private static final int PROMISES = 37;

    private static final class Section {
        private final String words;
        private final boolean[] told;

        Section(String words) {
            this.words = words;
            this.told = new boolean[words.length()];
        }

        boolean tell(String some) {
            int at = words.indexOf(some);
            boolean stands = at >= 0;
            while (at >= 0) {
                for (int i = at; i < at + some.length(); i++) {
                    told[i] = true;
                }
                at = words.indexOf(some, at + 1);
            }
            return stands;
        }

        String untold() {
            StringBuilder left = new StringBuilder();
            for (int i = 0; i < told.length; i++) {
                if (!told[i] && Character.isLetter(words.charAt(i))) {
                    left.append(words.charAt(i));
                } else if (left.length() > 0 && left.charAt(left.length() - 1) != ' ') {
                    left.append(' ');
                }
            }
            return left.toString().trim();
        }
    }

    private final Due due;
    private final Map<String, Section> sections = new LinkedHashMap<>();
    private String title = "";
    private String words = "";
    private int answers = 0;

    Said(Due due) throws IOException {
        this.due = due;
        for (String part : Files.readString(DOCUMENT).split("(?m)^## ")) {
            String head = part.split("[:\n]", 2)[0];
            sections.put(head, new Section(plain(part.substring(part.indexOf('\n') + 1))));
        }
    }

    /** The words without signs that only set them out: code's fences, the shape of a call, white space. */
    private static String plain(String part) {
        return part.replaceAll("^\\s*`[^`]*`:", " ").replaceAll("```(text)?", " ")
            .replaceAll("Ahead of the calls [^-]*---- [^().]*", " ")
            .replaceAll("========( [123](?= ))?", " ").replaceAll("\\s+", " ");
    }

    /** The section that the sentences behind it stand in. */
    void in(String section) {
        endSentence();
        title = section;
        due.isTrue("there is a section " + section, sections.containsKey(section));
    }

    /** The sentence that the answers behind it hold. */
    void says(String sentence) {
        endSentence();
        words = sentence;
        Section s = sections.get(title);
        due.isTrue(title + " says: " + sentence, s != null && s.tell(sentence));
    }

    private void endSentence() {
        due.isTrue("answers hold: " + words, words.isEmpty() || answers > 0);
        words = "";
        answers = 0;
    }

    void is(String call, long got, long want) {
        answers++;
        due.is("[" + title + ": " + words + "] " + call, got, want);
    }

    void isTrue(String what, boolean holds) {
        is(what, holds ? 1 : 0, 1);
    }

    void end() {
        in("Terms");
        due.is("words of Terms that nobody told: " + sections.get("Terms").untold(),
            sections.get("Terms").untold().length(), 0);
        for (int promise = 1; promise <= PROMISES; promise++) {
            Section s = sections.get("Promise " + promise);
            String left = s == null ? "all" : s.untold();
            due.is("words of promise " + promise + " that nobody told: " + left, left.length(), 0);
        }
        due.end();
    }
}
