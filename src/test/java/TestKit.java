import java.lang.reflect.InvocationTargetException;
import java.lang.reflect.Method;
import java.util.ArrayList;
import java.util.Arrays;
import java.util.HashMap;
import java.util.IdentityHashMap;
import java.util.List;
import java.util.Map;

/** What the tests share: calls by name that are counted, desks that are made ready, and how answers are judged. */
class TestKit {
    /** The document says nothing about an object behind so many calls, so no test may go beyond them. */
    static final int CALLS_MOST = 512;

    private static final Map<String, Method> FACE = new HashMap<>();
    private static final Map<SubgraphDesk, Integer> CALLS = new IdentityHashMap<>();
    private static final List<String> quotes = new ArrayList<>();
    private static int asked;
    private static int wrong;
    private static String place = "";

    static {
        for (Method m : SubgraphDesk.class.getDeclaredMethods()) {
            FACE.put(m.getName(), m);
        }
    }

    // ---- judging

    /** What is asked from now on is told with this name, if it is wrong. */
    static void at(String name) {
        place = name;
        CALLS.clear();
    }

    static void due(String call, long got, long want) {
        asked++;
        if (got != want) {
            wrong++;
            System.out.println(place + ": " + call + " answered " + got + ", due is " + want);
        }
    }

    static void same(String what, String got, String want) {
        asked++;
        if (!got.equals(want)) {
            wrong++;
            System.out.println(place + ": " + what + " is " + got + ", due is " + want);
        }
    }

    static void bad(String what) {
        wrong++;
        System.out.println(place + ": " + what);
    }

    // ---- sentences of the document

    /** The sentence that a test of a boundary holds the class to, as it stands in the document. */
    static void sentence(String quote) {
        quotes.add(quote);
    }

    /** What was quoted since the last time this was asked. */
    static List<String> takeQuotes() {
        List<String> taken = new ArrayList<>(quotes);
        quotes.clear();
        return taken;
    }

    static void finish() {
        System.out.println(asked + " answers asked, " + wrong + " wrong");
        if (wrong > 0) {
            System.exit(1);
        }
    }

    // ---- calls by name

    static long ask(SubgraphDesk x, String name, int... arguments) {
        int made = CALLS.merge(x, 1, Integer::sum);
        if (made == CALLS_MOST + 1) {
            bad("more than " + CALLS_MOST + " calls of one object");
        }
        try {
            Object[] boxed = Arrays.stream(arguments).boxed().toArray();
            return ((Number) FACE.get(name).invoke(x, boxed)).longValue();
        } catch (IllegalAccessException e) {
            throw new IllegalStateException(e);
        } catch (InvocationTargetException e) {
            bad(told(name, arguments) + " threw " + e.getCause());
            return Long.MIN_VALUE;
        }
    }

    /** How often a desk was called by name since at(). */
    static int calls(SubgraphDesk x) {
        return CALLS.getOrDefault(x, 0);
    }

    static String told(String name, int... arguments) {
        String row = Arrays.toString(arguments);
        return name + "(" + row.substring(1, row.length() - 1) + ")";
    }

    static void due(SubgraphDesk x, long want, String name, int... arguments) {
        due(told(name, arguments), ask(x, name, arguments), want);
    }

    // ---- all that stands in a desk

    /** Everything but the tape, FAULT, SMUDGES, where orders stopped, refusals and status. */
    static String board(SubgraphDesk x) {
        StringBuilder b = new StringBuilder();
        int nodes = (int) put(b, x, "count", 0);
        int vertices = (int) put(b, x, "count", 1);
        int edges = (int) put(b, x, "count", 2);
        for (int what : new int[] {3, 4, 6, 13, 14, 15, 16}) {
            put(b, x, "count", what);
        }
        int laws = (int) put(b, x, "count", 5);
        for (int i = 0; i < edges; i++) {
            put(b, x, "came", i);
        }
        for (int n = 0; n < nodes; n++) {
            put(b, x, "of", n, 0);
            put(b, x, "drawn", n, 0);
            put(b, x, "drawn", n, 1);
        }
        for (int v = 0; v < vertices; v++) {
            put(b, x, "at", v, 0);
            put(b, x, "at", v, 2);
        }
        for (int i = -1; i < laws; i++) {
            put(b, x, "compare", i);
        }
        put(b, x, "fitting");
        return b.toString();
    }

    /** Everything but refusals and status. */
    static String all(SubgraphDesk x) {
        StringBuilder b = new StringBuilder(board(x));
        put(b, x, "count", 7);
        put(b, x, "fault");
        put(b, x, "stopped");
        put(b, x, "smudges");
        return b.toString();
    }

    private static long put(StringBuilder b, SubgraphDesk x, String name, int... arguments) {
        long answer = ask(x, name, arguments);
        b.append(told(name, arguments)).append('=').append(answer).append(' ');
        return answer;
    }

    /** How often REFUSED by -1, -2, -3, -5, -6. */
    static String refusals(SubgraphDesk x) {
        StringBuilder b = new StringBuilder();
        for (int what = 8; what <= 12; what++) {
            put(b, x, "count", what);
        }
        return b.toString();
    }

    private static String refusalsWithOneMore(SubgraphDesk x, int why) {
        StringBuilder b = new StringBuilder();
        int[] reasons = {-1, -2, -3, -5, -6};
        for (int i = 0; i < reasons.length; i++) {
            long more = reasons[i] == why ? 1 : 0;
            b.append(told("count", 8 + i)).append('=').append(ask(x, "count", 8 + i) + more).append(' ');
        }
        return b.toString();
    }

    // ---- calls that are REFUSED, that are not, and that answer NONE

    /** It answers why; status and one count of refusals change; all else is as it was. */
    static void refused(SubgraphDesk x, int why, String name, int... arguments) {
        String call = told(name, arguments);
        String before = all(x);
        refusedAlone(x, why, name, arguments);
        same("what stands behind a refused " + call, all(x), before);
    }

    /** As refused(), but the tape and what is told of the latest text may change. */
    static void refusedText(SubgraphDesk x, int why, String name) {
        String before = board(x);
        refusedAlone(x, why, name);
        same("what stands behind a refused " + name + "()", board(x), before);
        due("the tape behind a refused " + name + "()", ask(x, "count", 7), 0);
    }

    private static void refusedAlone(SubgraphDesk x, int why, String name, int... arguments) {
        String call = told(name, arguments);
        String counts = refusalsWithOneMore(x, why);
        due(x, why, name, arguments);
        due("status() behind a refused " + call, ask(x, "status"), why);
        same("refusals behind a refused " + call, refusals(x), counts);
    }

    /** It answers so, is not REFUSED, and status tells that. */
    static void taken(SubgraphDesk x, long want, String name, int... arguments) {
        String call = told(name, arguments);
        String counts = refusals(x);
        due(x, want, name, arguments);
        due("status() behind " + call, ask(x, "status"), 0);
        same("refusals behind " + call, refusals(x), counts);
    }

    /** It answers NONE, which is no refusal: nothing at all changes. */
    static void none(SubgraphDesk x, String name, int... arguments) {
        String call = told(name, arguments);
        String before = all(x) + refusals(x) + ask(x, "status");
        due(x, SubgraphDesk.NONE, name, arguments);
        same("what stands behind " + call, all(x) + refusals(x) + ask(x, "status"), before);
    }

    // ---- desks that are made ready

    /** Nodes and vertices of colour 1. */
    static SubgraphDesk desk(int nodes, int vertices) {
        SubgraphDesk x = new SubgraphDesk();
        for (int i = 0; i < nodes; i++) {
            ask(x, "node", 1);
        }
        for (int i = 0; i < vertices; i++) {
            ask(x, "vertex", 1);
        }
        return x;
    }

    static void edges(SubgraphDesk x, int... ends) {
        for (int i = 0; i + 1 < ends.length; i += 2) {
            ask(x, "edge", ends[i], ends[i + 1]);
        }
    }

    static void links(SubgraphDesk x, int... ends) {
        for (int i = 0; i + 1 < ends.length; i += 2) {
            ask(x, "link", ends[i], ends[i + 1]);
        }
    }

    /** The tape holds this text alone then. */
    static void write(SubgraphDesk x, String text) {
        ask(x, "end", 0);
        for (int from = 0; from < text.length(); from += 20) {
            ask(x, "feed", packed(text, from));
        }
        ask(x, "end", text.length());
    }

    /** Twenty bytes of a text as five numbers; behind its end zeros. */
    static int[] packed(String text, int from) {
        int[] five = new int[5];
        for (int k = 0; k < 20; k++) {
            int sign = from + k < text.length() ? text.charAt(from + k) : 0;
            five[k / 4] = five[k / 4] << 8 | sign;
        }
        return five;
    }

    static int law(SubgraphDesk x, String text) {
        write(x, text);
        return (int) ask(x, "law");
    }

    static int orders(SubgraphDesk x, String text) {
        write(x, text);
        return (int) ask(x, "orders");
    }

    /** A law that is in FORCE then. */
    static void forced(SubgraphDesk x, String text) {
        int law = law(x, text);
        if (law < 0) {
            bad("no law: " + text);
        }
        ask(x, "force", law);
    }

    static String repeat(String part, int times) {
        StringBuilder b = new StringBuilder();
        for (int i = 0; i < times; i++) {
            b.append(part);
        }
        return b.toString();
    }
}
