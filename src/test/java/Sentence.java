import java.io.IOException;
import java.nio.file.Files;
import java.nio.file.Path;
import java.util.HashSet;
import java.util.Map;
import java.util.Set;
import java.util.TreeMap;

/** Names the sentence of the document that a test holds to, and sees that the document has it in that place. */
final class Sentence {
    private static final int PROMISES = 23;
    private static final Path DOCUMENT = Path.of("../shared/DOC.md");
    private static final Map<String, String> SECTIONS = sections();
    private static final Set<String> TESTED = new HashSet<>();

    private Sentence() {
    }

    static void of(String where, String words) {
        Due.under(where + " \"" + words + "\"");
        TESTED.add(where);
        if (SECTIONS.containsKey(where)) {
            Due.holds("that the document says so there", SECTIONS.get(where).contains(words));
        }
    }

    /** By the names that tests use for them; none, where the document is not at hand: all else is tested then, too. */
    private static Map<String, String> sections() {
        Map<String, String> all = new TreeMap<>();
        String text;
        try {
            text = Files.readString(DOCUMENT).replaceAll("\\s+", " ");
        } catch (IOException e) {
            System.out.println("the document can't be read, so what tests quote is not looked up: " + e);
            return all;
        }
        all.put("Terms 1", between(text, "## Terms", "======== 2 "));
        all.put("Terms 2", between(text, "======== 2 ", "======== 3 "));
        all.put("Terms 3", between(text, "======== 3 ", "Refused, and nothing changes"));
        all.put("Refused", between(text, "Refused, and nothing changes", "Ahead of the calls"));
        for (int i = 1; i <= PROMISES; i++) {
            String end = i < PROMISES ? "## Promise " + (i + 1) + ":" : "## Not promised";
            all.put("Promise " + i, between(text, "## Promise " + i + ":", end));
        }
        return all;
    }

    private static String between(String text, String from, String to) {
        int start = text.indexOf(from);
        int end = text.indexOf(to, start + 1);
        return start < 0 || end < 0 ? "" : text.substring(start, end);
    }

    /** Each promise, each section of the terms, and what is said of refused calls, has a sentence that is tested. */
    static void allAreTested() {
        Due.under("");
        for (int i = 1; i <= PROMISES; i++) {
            isTested("Promise " + i);
        }
        isTested("Terms 1");
        isTested("Terms 2");
        isTested("Terms 3");
        isTested("Refused");
    }

    private static void isTested(String where) {
        Due.holds("that a sentence of " + where + " is tested", TESTED.contains(where));
    }
}
