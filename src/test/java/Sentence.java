import java.io.IOException;
import java.nio.file.Files;
import java.nio.file.Path;
import java.util.BitSet;
import java.util.Map;
import java.util.TreeMap;

/** Names the sentence of the document that a test holds to, and sees that the document has it in that place. */
final class Sentence {
    private static final int PROMISES = 23;
    private static final Path DOCUMENT = Path.of("../shared/DOC.md");
    private static final Map<String, String> SECTIONS = sections();
    /** Of each section the places that a test has quoted. */
    private static final Map<String, BitSet> QUOTED = new TreeMap<>();

    private Sentence() {
    }

    static void of(String where, String words) {
        Due.under(where + " \"" + words + "\"");
        String section = SECTIONS.get(where);
        if (SECTIONS.isEmpty()) {
            return;
        }
        Due.holds("that the document says so there", section != null && section.contains(words));
        if (section != null) {
            quote(section, words, QUOTED.computeIfAbsent(where, none -> new BitSet()));
        }
    }

    private static void quote(String section, String words, BitSet quoted) {
        int at = section.indexOf(words);
        while (at >= 0 && !words.isEmpty()) {
            quoted.set(at, at + words.length());
            at = section.indexOf(words, at + 1);
        }
    }

    /** By the names that tests use for them; none, where the document is not at hand: all else is tested then, too. */
    private static Map<String, String> sections() {
        Map<String, String> all = new TreeMap<>();
        String text;
        try {
            text = Files.readString(DOCUMENT).replace("```text", " ").replace("```", " ").replaceAll("\\s+", " ");
        } catch (IOException e) {
            System.out.println("the document can't be read, so what tests quote is not looked up: " + e);
            return all;
        }
        all.put("What it is", between(text, "An object is used", "## The public face"));
        all.put("Terms 1", between(text, "(4 at most)", "======== 2 "));
        all.put("Terms 2", between(text, "CALLS 0 .. 11", "======== 3 "));
        all.put("Terms 3", between(text, "(Nothing is changed.)", "Refused, and nothing changes"));
        all.put("Refused", between(text, "Refused, and nothing changes", "Ahead of the calls"));
        for (int i = 1; i <= PROMISES; i++) {
            String end = i < PROMISES ? "## Promise " + (i + 1) + ":" : "## Not promised";
            String promise = between(text, "## Promise " + i + ":", end);
            // What stands ahead of it is the heading and the call.
            all.put("Promise " + i, promise.substring(promise.indexOf("`: ") + 1));
        }
        return all;
    }

    private static String between(String text, String from, String to) {
        int start = text.indexOf(from);
        int end = text.indexOf(to, start + 1);
        return start < 0 || end < 0 ? "" : text.substring(start, end);
    }

    /** Every word of the terms, of the promises, of what is said of refused calls stands in a sentence that is tested. */
    static void allAreTested() {
        Due.under("");
        for (Map.Entry<String, String> section : SECTIONS.entrySet()) {
            BitSet quoted = QUOTED.getOrDefault(section.getKey(), new BitSet());
            String text = section.getValue();
            Due.holds("that the document has " + section.getKey(), !text.isEmpty());
            for (int at = quoted.nextClearBit(0); at < text.length(); at = quoted.nextClearBit(at)) {
                int next = quoted.nextSetBit(at);
                int end = next < 0 ? text.length() : next;
                String left = text.substring(at, end);
                Due.holds("that a test quotes '" + left + "' of " + section.getKey(), isNoWord(left));
                at = end;
            }
        }
    }

    private static boolean isNoWord(String text) {
        return text.chars().noneMatch(Character::isLetterOrDigit);
    }
}
