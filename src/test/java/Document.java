import java.io.IOException;
import java.nio.file.Files;
import java.nio.file.Path;
import java.util.ArrayList;
import java.util.List;
import java.util.regex.Matcher;
import java.util.regex.Pattern;

/** ../shared/DOC.md, as far as the tests read it. */
final class Document {
    /** A section "## Promise N: title": the signature that stands there, and what is said behind it. */
    record Promise(int number, String title, String signature, String words) {
        /** The call's name, without what it is given. */
        String name() {
            return title.equals("A new object") ? "SubgraphDesk" : title;
        }
    }

    private static final Path FILE = Path.of("../shared/DOC.md");
    private static final Pattern PROMISE =
        Pattern.compile("(?ms)^## Promise (\\d+): ([^\n]+)\n\\s*`([^`]+)`: (.*?)\\s*(?=^## |\\z)");

    private Document() {
    }

    static String text() throws IOException {
        return Files.readString(FILE);
    }

    static List<Promise> promises() throws IOException {
        List<Promise> found = new ArrayList<>();
        Matcher m = PROMISE.matcher(text());
        while (m.find()) {
            found.add(new Promise(Integer.parseInt(m.group(1)), m.group(2), m.group(3), m.group(4)));
        }
        return found;
    }

    /** What stands between the braces of the public face, a line each, without "public" and ";". */
    static List<String> face() throws IOException {
        Matcher m = Pattern.compile("(?s)```java\\s*public final class SubgraphDesk \\{(.*?)\\}\\s*```").matcher(text());
        List<String> lines = new ArrayList<>();
        if (m.find()) {
            for (String line : m.group(1).strip().split("\n")) {
                lines.add(line.strip().replaceAll("^public |;$", ""));
            }
        }
        return lines;
    }

    /** The calls that can be REFUSED: those that promise 46 names. */
    static List<String> refusable() throws IOException {
        for (Promise p : promises()) {
            Matcher m = Pattern.compile("the latest call of ([a-z, ]+) was REFUSED").matcher(p.words());
            if (p.title().equals("status") && m.find()) {
                return List.of(m.group(1).split(", "));
            }
        }
        return List.of();
    }

    /** The numbers by which a call can be REFUSED, in the order in which they are looked at: "-1, -5". */
    static String refusals(Promise p) {
        List<String> reasons = new ArrayList<>();
        Matcher m = Pattern.compile("(?<![\\w.])-[12356]\\b").matcher(p.words());
        while (m.find()) {
            reasons.add(m.group());
        }
        return String.join(", ", reasons);
    }
}
