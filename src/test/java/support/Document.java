import java.io.IOException;
import java.io.UncheckedIOException;
import java.nio.file.Files;
import java.nio.file.Path;
import java.util.LinkedHashMap;
import java.util.Map;

/** ../shared/DOC.md by its headings: the promises, the four parts of "Terms", the sentences on refusals behind them. */
final class Document {
    static final String NUMBERS = "Terms, 1 NUMBERS", ENCODING = "Terms, 2 ENCODING", LINE = "Terms, 3 THE LINE",
        TRACE = "Terms, 4 TRACE", REFUSALS = "Terms, refusals";

    private static final Map<String, String> SECTIONS = read();

    private Document() {
    }

    /** The whole heading of a promise, as "Promise 19: cut". */
    static String promise(int number) {
        for (String heading : SECTIONS.keySet()) {
            if (heading.startsWith("Promise " + number + ":")) {
                return heading;
            }
        }
        return "Promise " + number;
    }

    /** What stands under a heading; empty if there is none such. */
    static String under(String heading) {
        return SECTIONS.getOrDefault(heading, "");
    }

    private static Map<String, String> read() {
        try {
            Map<String, String> sections = new LinkedHashMap<>();
            String heading = "";
            for (String line : Files.readAllLines(Path.of("../shared/DOC.md"))) {
                heading = headingAt(line, heading);
                sections.merge(heading, line.strip(), (before, more) -> before + " " + more);
            }
            return sections;
        } catch (IOException e) {
            throw new UncheckedIOException(e);
        }
    }

    private static String headingAt(String line, String before) {
        if (line.startsWith("## ")) {
            return line.substring(3);
        }
        for (String part : new String[] {NUMBERS, ENCODING, LINE, TRACE}) {
            if (line.startsWith("======== " + part.substring("Terms, ".length()))) {
                return part;
            }
        }
        return line.startsWith("Of several refusals") ? REFUSALS : before;
    }
}
