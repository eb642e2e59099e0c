import java.util.ArrayList;
import java.util.LinkedHashMap;
import java.util.List;
import java.util.Map;

/**
 * A test for each sentence of ../shared/DOC.md that names a boundary case. A test quotes its words,
 * so that it stays bound to what it is for, and none of what a call throws is left without a test.
 */
final class Sentences {
    private static final String THROWS_BUT_FOR_ITS_CASES = "Throws `\\w+` if( |,|or )*";

    private final Checks checks;
    private final Map<String, List<String>> document = new LinkedHashMap<>();
    private final Map<String, List<String>> quoted = new LinkedHashMap<>();
    private String section = "";

    Sentences(Checks checks) {
        this.checks = checks;
        List<String> lines = new ArrayList<>();
        for (String line : Markdown.lines(Markdown.DOCUMENT)) {
            if (line.startsWith("## ")) {
                lines = new ArrayList<>();
                document.put(line.substring(3).replaceFirst(":.*", ""), lines);
            }
            lines.add(line.strip());
        }
    }

    /** The sentences that follow stand in this section, such as "Terms" or "Promise 2". */
    void in(String heading) {
        checks.about(heading);
        checks.isTrue("a section of the document", document.containsKey(heading));
        section = heading;
        quoted.putIfAbsent(section, new ArrayList<>());
    }

    void test(String words, Runnable test) {
        checks.about(section + ", \"" + words + "\"");
        checks.isTrue("the document says so", String.join(" ", linesOf(section)).contains(words));
        quoted.get(section).add(words);
        int before = checks.made();
        checks.sameText("the test itself", Checks.thrownBy(test), "nothing");
        checks.isTrue("it is looked at", checks.made() > before + 1);
    }

    /** Looks whether all that is thrown in these sections was quoted, and ends the program. */
    void end() {
        for (String one : quoted.keySet()) {
            checks.about(one);
            for (String line : linesOf(one)) {
                checks.isTrue("all cases are tested: " + line, !line.startsWith("Throws ") || isQuoted(one, line));
            }
        }
        checks.end();
    }

    private boolean isQuoted(String heading, String line) {
        String rest = line;
        for (String words : quoted.get(heading)) {
            rest = rest.replace(words, "");
        }
        return rest.matches(THROWS_BUT_FOR_ITS_CASES);
    }

    private List<String> linesOf(String heading) {
        return document.getOrDefault(heading, List.of());
    }
}
