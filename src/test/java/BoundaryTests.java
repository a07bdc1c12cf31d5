import java.lang.reflect.Method;
import java.util.ArrayList;
import java.util.Arrays;
import java.util.Comparator;
import java.util.List;
import java.util.regex.Matcher;
import java.util.regex.Pattern;

/**
 * A test for each sentence of the document that names a boundary. The name of a test begins with the
 * number of the promise; it quotes the sentence, and what it quotes must stand in the document.
 */
public final class BoundaryTests extends TestKit {
    private static final Class<?>[] GROUPS = {
        GraphBoundaries.class, ActBoundaries.class, TapeBoundaries.class, LawBoundaries.class, OrderBoundaries.class,
        WayBoundaries.class, SearchBoundaries.class, SightBoundaries.class, ImageBoundaries.class, StoryBoundaries.class
    };
    private static final int PROMISES = 46;

    private static String document = "";
    private static boolean[] isQuoted = new boolean[0];

    public static void main(String[] args) throws Exception {
        document = folded(Document.text());
        isQuoted = new boolean[document.length()];
        int tests = 0;
        for (Class<?> group : GROUPS) {
            tests += runGroup(group);
        }
        for (int promise = 1; promise <= PROMISES; promise++) {
            lookAtPromise(promise);
        }
        lookAtTheRest();
        System.out.println(tests + " tests of boundaries");
        finish();
    }

    private static String folded(String text) {
        return text.replaceAll("```text|```", " ").replaceAll("\\s+", " ");
    }

    private static int runGroup(Class<?> group) throws Exception {
        List<Method> tests = new ArrayList<>();
        for (Method m : group.getDeclaredMethods()) {
            if (m.getName().matches("p\\d\\d_\\w+")) {
                tests.add(m);
            }
        }
        tests.sort(Comparator.comparing(Method::getName));
        for (Method test : tests) {
            test.setAccessible(true);
            at(test.getName());
            takeQuotes();
            test.invoke(null);
            lookAtQuotes();
        }
        return tests.size();
    }

    private static void lookAtQuotes() {
        List<String> quotes = takeQuotes();
        if (quotes.isEmpty()) {
            bad("quotes no sentence");
        }
        for (String quote : quotes) {
            int from = document.indexOf(folded(quote));
            if (from < 0) {
                bad("the document has no such sentence: " + quote);
            } else {
                Arrays.fill(isQuoted, from, from + folded(quote).length(), true);
            }
        }
    }

    /** Of what stands under each promise something must be quoted. */
    private static void lookAtPromise(int promise) {
        at("promise " + promise);
        int from = document.indexOf("## Promise " + promise + ":");
        int to = document.indexOf("## ", from + 3);
        boolean quoted = false;
        for (int i = from; i >= 0 && i < to; i++) {
            quoted |= isQuoted[i];
        }
        if (!quoted) {
            bad("no test quotes it");
        }
    }

    /** Each sentence must be quoted; LanguageCheck looks at the face and the signatures. */
    private static void lookAtTheRest() {
        at("the document");
        passOver("# SubgraphDesk ## What it is");
        passOver("## The public face java public final class SubgraphDesk \\{.*?\\} ## Terms");
        passOver("## Promise \\d+: [\\w ]+ `[^`]+`:");
        passOver("## Not promised .*");
        passOver("\\bI{1,3}V?\\. ");
        int from = 0;
        for (int i = 0; i <= isQuoted.length; i++) {
            if (i == isQuoted.length || isQuoted[i]) {
                if (!document.substring(from, i).matches("\\W*")) {
                    bad("no test quotes: " + document.substring(from, i));
                }
                from = i + 1;
            }
        }
    }

    private static void passOver(String headings) {
        Matcher m = Pattern.compile(headings).matcher(document);
        while (m.find()) {
            Arrays.fill(isQuoted, m.start(), m.end(), true);
        }
    }
}
