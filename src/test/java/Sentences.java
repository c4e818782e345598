import java.io.IOException;
import java.nio.file.Files;
import java.nio.file.Path;
import java.util.ArrayList;
import java.util.LinkedHashMap;
import java.util.LinkedHashSet;
import java.util.List;
import java.util.Map;
import java.util.Set;

/**
 * The clauses of the document, by heading. A test quotes a clause, or a part of it, before the checks that stand for
 * it; in the end each clause of the headings must have been quoted, so that none is left without a test.
 */
final class Sentences {
    private static final Path DOCUMENT = Path.of("../shared/DOC.md");

    private final Check check;
    private final Map<String, List<String>> clauses = new LinkedHashMap<>();
    private final Set<String> quoted = new LinkedHashSet<>();
    private int askedBefore = 1;

    /** Takes the headings that begin with one of these words. */
    Sentences(Check check, String... headings) throws IOException {
        this.check = check;
        String[] sections = Files.readString(DOCUMENT).split("\n## ");
        for (String section : sections) {
            int end = section.indexOf('\n');
            String heading = end < 0 ? section : section.substring(0, end);
            for (String wanted : headings) {
                if (heading.startsWith(wanted)) {
                    clauses.put(heading.replaceAll(":.*", ""), clausesOf(section.substring(end)));
                }
            }
        }
    }

    private static List<String> clausesOf(String section) {
        List<String> found = new ArrayList<>();
        for (String block : section.split("\n\n+|\n(?=- )|\n(?=  [a-z]+ = )")) {
            for (String clause : plain(block).split("(?<=[.;]) ")) {
                if (!namesNothing(clause)) {
                    found.add(clause);
                }
            }
        }
        return found;
    }

    /** True of signatures, of the lines between parts, of headwords like "Time.", and of "- `card`: the card". */
    private static boolean namesNothing(String clause) {
        boolean isSignature = clause.startsWith("`") || clause.startsWith("----");
        boolean isHeadword = clause.matches("(\\w+ )?\\w+\\.?");
        return clause.isEmpty() || isSignature || isHeadword || clause.matches("- `\\w+`: (the|a) \\w+");
    }

    private static String plain(String text) {
        return text.trim().replaceAll("\\s+", " ");
    }

    void quote(String heading, String... texts) {
        requireChecks();
        check.begin(heading + ", " + String.join(" .. ", texts));
        askedBefore = check.asked();
        for (String text : texts) {
            mark(heading, plain(text));
        }
    }

    /** For a clause that names nothing to test. */
    void skip(String heading, String text) {
        mark(heading, plain(text));
    }

    private void mark(String heading, String text) {
        boolean isThere = false;
        for (String clause : clauses.getOrDefault(heading, List.of())) {
            if (clause.contains(text)) {
                quoted.add(heading + ", " + clause);
                isThere = true;
            }
        }
        if (!isThere) {
            check.due("a clause of " + heading, text);
            askedBefore = check.asked();
        }
    }

    private void requireChecks() {
        if (check.asked() == askedBefore) {
            check.due("some checks", "no check");
        }
    }

    void end() {
        requireChecks();
        check.begin("clauses without a test");
        for (Map.Entry<String, List<String>> section : clauses.entrySet()) {
            for (String clause : section.getValue()) {
                String whole = section.getKey() + ", " + clause;
                check.due(whole, quoted.contains(whole) ? whole : "no test");
            }
        }
        check.due(false, clauses.isEmpty());
        check.end();
    }
}
