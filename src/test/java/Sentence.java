import java.io.IOException;
import java.nio.file.Files;
import java.nio.file.Path;
import java.util.HashSet;
import java.util.Map;
import java.util.Set;
import java.util.TreeMap;

/** Names the sentence of the document that a test holds to, and sees that the document has it in that place. */
final class Sentence {
    static final int PROMISES = 23;
    private static final Path DOCUMENT = Path.of("../shared/DOC.md");
    private static final Map<String, String> SECTIONS = new TreeMap<>();
    private static final Set<String> TESTED = new HashSet<>();

    private Sentence() {
    }

    static void of(String where, String words) {
        Due.under(where + " \"" + words + "\"");
        TESTED.add(where);
        Due.holds("that the document says so there", section(where).contains(words));
    }

    private static String section(String where) {
        if (SECTIONS.isEmpty()) {
            readDocument();
        }
        return SECTIONS.getOrDefault(where, "");
    }

    private static void readDocument() {
        String all;
        try {
            all = Files.readString(DOCUMENT).replaceAll("\\s+", " ");
        } catch (IOException e) {
            throw new IllegalStateException("the document can't be read: " + e);
        }
        keep("Terms 1", all, "## Terms", "======== 2 ");
        keep("Terms 2", all, "======== 2 ", "======== 3 ");
        keep("Terms 3", all, "======== 3 ", "Refused, and nothing changes");
        keep("Refused", all, "Refused, and nothing changes", "Ahead of the calls");
        for (int i = 1; i <= PROMISES; i++) {
            keep("Promise " + i, all, "## Promise " + i + ":", i < PROMISES ? "## Promise " + (i + 1) + ":" : "## Not");
        }
    }

    private static void keep(String where, String all, String from, String to) {
        int start = all.indexOf(from);
        int end = all.indexOf(to, start + 1);
        SECTIONS.put(where, start < 0 || end < 0 ? "" : all.substring(start, end));
    }

    /** Each promise, and each section of the terms, has a sentence that is tested. */
    static void allAreTested() {
        Due.under("");
        for (String where : SECTIONS.keySet()) {
            Due.holds("a test of " + where, TESTED.contains(where));
        }
        Due.due("sections of the document", SECTIONS.size(), PROMISES + 4);
    }
}
