import java.io.IOException;
import java.nio.file.DirectoryStream;
import java.nio.file.Files;
import java.nio.file.Path;
import java.util.ArrayList;
import java.util.List;
import java.util.Set;
import java.util.TreeSet;
import java.util.regex.Matcher;
import java.util.regex.Pattern;

/** README.md: its examples are run, its tables are compared with the document and with the tests there are. */
public final class ReadmeTests extends TestKit {
    private static final Path TESTS = Path.of("src/test/java");
    private static final Pattern CALL = Pattern.compile("desk\\.(\\w+)\\(([^)]*)\\);\\s+// (-?\\d+)(:.*)?");
    private static final Pattern WRITE = Pattern.compile("write\\(desk, \"([^\"]*)\"\\);");
    private static final int EXAMPLES_LEAST = 6;

    private static SubgraphDesk desk;

    public static void main(String[] args) throws IOException {
        String page = Files.readString(Path.of("README.md"));
        int examples = 0;
        for (String block : blocks(page)) {
            at("example " + ++examples);
            if (block.startsWith("static ")) {
                lookAtHelper(block);
            } else {
                run(block);
            }
        }
        if (examples < EXAMPLES_LEAST) {
            bad("README.md has only " + examples + " examples");
        }
        tableOfCalls(page);
        tableOfTests(page);
        finish();
    }

    private static List<String> blocks(String page) {
        List<String> found = new ArrayList<>();
        Matcher m = Pattern.compile("(?s)```java\n(.*?)```").matcher(page);
        while (m.find()) {
            found.add(m.group(1));
        }
        return found;
    }

    /** An example goes on with the desk of the one ahead of it, if it makes none. */
    private static void run(String block) {
        for (String line : block.split("\n")) {
            Matcher call = CALL.matcher(line);
            Matcher text = WRITE.matcher(line);
            if (line.equals("SubgraphDesk desk = new SubgraphDesk();")) {
                desk = new SubgraphDesk();
            } else if (desk != null && call.matches()) {
                due(desk, Long.parseLong(call.group(3)), call.group(1), arguments(call.group(2)));
            } else if (desk != null && text.matches()) {
                write(desk, text.group(1));
            } else {
                bad("what is this? " + line);
            }
        }
    }

    private static int[] arguments(String row) {
        String[] words = row.isEmpty() ? new String[0] : row.split(", ");
        int[] numbers = new int[words.length];
        for (int i = 0; i < words.length; i++) {
            numbers[i] = Long.decode(words[i]).intValue();
        }
        return numbers;
    }

    // README.md has this method word by word, so that what it shows is what is run
    static void write(SubgraphDesk desk, String text) {
        desk.end(0);
        for (int from = 0; from < text.length(); from += 20) {
            int[] five = new int[5];
            for (int i = 0; i < 20; i++) {
                int sign = from + i < text.length() ? text.charAt(from + i) : 0;
                five[i / 4] = five[i / 4] << 8 | sign;
            }
            desk.feed(five[0], five[1], five[2], five[3], five[4]);
        }
        desk.end(text.length());
    }

    private static void lookAtHelper(String block) throws IOException {
        String here = folded(Files.readString(TESTS.resolve("ReadmeTests.java")));
        if (!here.contains(folded(block))) {
            bad("the method that is shown is not the one that is run");
        }
    }

    private static String folded(String text) {
        return text.replaceAll("\\s+", " ").strip();
    }

    // ---- the tables

    /** The cells of the rows whose first cell is code, below the heading of this table. */
    private static List<String[]> rows(String page, String heading) {
        List<String[]> found = new ArrayList<>();
        int from = page.indexOf(heading);
        if (from < 0) {
            bad("README.md has no table " + heading);
            return found;
        }
        for (String line : page.substring(from).split("\n")) {
            if (!line.startsWith("|")) {
                break;
            }
            String[] cells = line.substring(2, line.length() - 2).split(" \\| ");
            if (cells[0].startsWith("`")) {
                cells[0] = cells[0].replace("`", "");
                found.add(cells);
            }
        }
        return found;
    }

    private static void tableOfCalls(String page) throws IOException {
        List<String> told = new ArrayList<>();
        for (String[] cells : rows(page, "| call |")) {
            told.add(cells[0] + " " + cells[cells.length - 1]);
        }
        List<String> due = new ArrayList<>();
        Set<String> refusable = new TreeSet<>(Document.refusable());
        for (Document.Promise p : Document.promises()) {
            if (p.number() > 1) {
                String below = p.words().contains("NONE") ? "NONE" : "never";
                due.add(p.signature().replaceAll("\\b(int|long) ", "") + " "
                    + (refusable.contains(p.name()) ? Document.refusals(p) : below));
            }
        }
        at("the table of calls");
        same("how many there are", "" + told.size(), "" + due.size());
        for (int i = 0; i < Math.min(told.size(), due.size()); i++) {
            same("row " + i, told.get(i), due.get(i));
        }
    }

    private static void tableOfTests(String page) throws IOException {
        Set<String> told = new TreeSet<>();
        for (String[] cells : rows(page, "| test |")) {
            told.add(cells[0]);
        }
        Set<String> due = new TreeSet<>();
        try (DirectoryStream<Path> files = Files.newDirectoryStream(TESTS, "*.java")) {
            for (Path file : files) {
                if (Files.readString(file).contains("public static void main")) {
                    due.add(file.getFileName().toString().replace(".java", ""));
                }
            }
        }
        // this file names main in the line above, as .ci/run looks for it
        at("the table of tests");
        same("which there are", told.toString(), due.toString());
    }
}
