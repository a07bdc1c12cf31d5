import java.lang.reflect.InvocationTargetException;
import java.lang.reflect.Method;
import java.lang.reflect.Modifier;
import java.util.HashMap;
import java.util.Map;
import java.util.Random;

/**
 * Drawn runs: SubgraphDesk and the naive DeskModel must answer alike. Some runs are long rows of
 * all calls, the others make a graph, a pattern and a law and then ask all that can be asked.
 */
public final class ModelRuns extends TestKit {
    /** So many calls are left for a last look at all that stands: 17 counts, 66 edges, a text that was begun. */
    private static final int LAST_CALLS = 130;
    private static final String[] NAMES = {
        "node", "vertex", "of", "at", "lay", "came", "terms", "feed", "end", "row", "smudges", "law", "orders",
        "fault", "stopped", "force", "edge", "link", "paint", "dye", "undo", "ways", "way", "once", "onceWay",
        "symmetries", "best", "candidates", "steps", "within", "kind", "sets", "touched", "seen", "forget",
        "fitting", "look", "few", "compare", "days", "drawn", "image", "back", "count", "status"
    };

    private static final Map<String, Method> MODEL = new HashMap<>();

    private final Random draw;
    private final SubgraphDesk desk = new SubgraphDesk();
    private final DeskModel model = new DeskModel();
    private final StringBuilder told = new StringBuilder();
    private final int nodesMost;
    private final int verticesMost;
    private boolean good = true;
    private int goodLaws;
    private int goodOrders;

    static {
        for (Method m : DeskModel.class.getDeclaredMethods()) {
            if (!Modifier.isPrivate(m.getModifiers())) {
                MODEL.put(m.getName(), m);
            }
        }
    }

    private ModelRuns(long seed) {
        draw = new Random(seed);
        boolean large = draw.nextInt(12) == 0;
        nodesMost = large ? 12 : 2 + draw.nextInt(6);
        verticesMost = large ? 2 + draw.nextInt(2) : 1 + draw.nextInt(5);
    }

    public static void main(String[] args) {
        long first = args.length > 0 ? Long.parseLong(args[0]) : 1;
        int runs = args.length > 1 ? Integer.parseInt(args[1]) : 2000;
        int wrong = 0;
        long laws = 0;
        long orders = 0;
        for (long seed = first; seed < first + runs && wrong < 3; seed++) {
            at("seed " + seed);
            ModelRuns run = new ModelRuns(seed);
            if (seed % 3 == 0) {
                run.askAll();
            } else {
                run.runAll();
            }
            if (!run.good) {
                wrong++;
                System.out.println("seed " + seed + ":\n" + run.told);
            }
            laws += run.goodLaws;
            orders += run.goodOrders;
        }
        System.out.println(runs + " runs, " + laws + " laws and " + orders + " orders read well, wrong: " + wrong);
        if (wrong > 0) {
            System.exit(1);
        }
    }

    private void runAll() {
        int prologue = draw.nextInt(30);
        while (good && calls(desk) < CALLS_MOST - LAST_CALLS) {
            int kind = draw.nextInt(100);
            if (calls(desk) < prologue) {
                step(draw.nextBoolean() ? "node" : draw.nextBoolean() ? "vertex" : draw.nextInt(3) > 0 ? "edge" : "link");
            } else if (kind < 12) {
                readText(kind < 5 ? "law" : kind < 10 ? "orders" : "row");
            } else if (kind < 35) {
                step(new String[] {"edge", "edge", "edge", "link", "paint", "dye", "undo", "undo"}[draw.nextInt(8)]);
            } else {
                step(NAMES[draw.nextInt(NAMES.length)]);
            }
        }
        lookAtAll();
    }

    private void readText(String reader) {
        feedText(reader.equals("law") ? lawText() : reader.equals("orders") ? ordersText() : rowBytes());
        same(reader);
        boolean wasRead = model.status() == 0;
        same("fault");
        same("stopped");
        if (wasRead && reader.equals("law")) {
            goodLaws++;
            if (draw.nextInt(3) > 0) {
                same("force", model.count(5) - 1);
            }
        }
        if (wasRead && reader.equals("orders")) {
            goodOrders++;
        }
    }

    /** So that a candidate, a step or a kind that is wrong in few graphs alone is met. */
    private void askAll() {
        int nodes = 3 + draw.nextInt(10);
        int vertices = 1 + draw.nextInt(5);
        int colours = 1 + draw.nextInt(3);
        for (int i = 0; i < nodes; i++) {
            same("node", draw.nextInt(colours));
        }
        for (int i = 0; i < vertices; i++) {
            same("vertex", draw.nextInt(4) > 0 ? draw.nextInt(colours) : 6);
        }
        int density = 1 + draw.nextInt(5);
        for (int i = 0; i < nodes * nodes; i++) {
            if (draw.nextInt(10) < density) {
                same("edge", i % nodes, i / nodes);
            }
        }
        for (int v = 1; v < vertices; v++) {
            if (draw.nextInt(8) > 0) {
                same("link", v, draw.nextInt(v));
            }
            if (v > 1 && draw.nextInt(4) == 0) {
                same("link", 0, v);
            }
        }
        StringBuilder law = new StringBuilder("costs [node * 7 + vertex * 3 + colour] % ").append(1 + draw.nextInt(20));
        for (int v = 0; v < vertices; v++) {
            if (draw.nextInt(3) > 0) {
                law.append(";bars if vertex=").append(v).append(" and [node*").append(1 + draw.nextInt(9)).append('+')
                    .append(draw.nextInt(9)).append("]%").append(2 + draw.nextInt(5)).append('<').append(1 + draw.nextInt(2));
            }
        }
        feedText(law.toString());
        same("law");
        if (draw.nextInt(3) > 0) {
            same("force", 0);
        }
        askAllNow(nodes, vertices);
    }

    private void askAllNow(int nodes, int vertices) {
        for (String name : new String[] {"ways", "once", "symmetries", "touched"}) {
            same(name);
        }
        same("sets", draw.nextInt(61));
        for (int v = -1; v < vertices; v++) {
            same("best", v);
            same("at", v, 3);
            same("way", draw.nextInt(40), v);
            same("onceWay", draw.nextInt(20), v);
            for (int n = 0; n <= 9; n++) {
                same("candidates", v, n);
            }
            for (int n = 0; n < nodes; n++) {
                same("lay", v, n, draw.nextInt(2));
            }
        }
        for (int i = 0; i < 3; i++) {
            same("steps", i);
            same("within", draw.nextInt(40));
            same("within", draw.nextInt(300));
            same("compare", i - 1);
        }
        for (int n = -1; n < nodes; n++) {
            same("kind", n, draw.nextInt(4));
            same("kind", n, 12);
        }
        for (int i = 0; i < 4; i++) {
            same("fitting");
            same("look", 0);
            same("look", 1);
            if (model.look(0) >= 0) {
                same("seen", draw.nextInt(vertices), draw.nextInt(nodes));
            }
        }
    }

    // ---- arguments

    private int near(int most) {
        int x = draw.nextInt(40);
        if (x == 0) {
            return -1 - draw.nextInt(3);
        }
        if (x == 1) {
            return most + 1 + draw.nextInt(3);
        }
        if (x == 2) {
            return draw.nextInt();
        }
        return draw.nextInt(most + 1);
    }

    private int someNode() {
        return near(Math.max(0, model.count(0) - 1));
    }

    private int someVertex() {
        return near(Math.max(0, model.count(1) - 1));
    }

    /** One call with drawn arguments; what would fill or empty too much is left out now and then. */
    private void step(String name) {
        boolean full = name.equals("node") && model.count(0) >= nodesMost || name.equals("vertex") && model.count(1) >= verticesMost;
        boolean rare = name.equals("terms") || name.equals("feed") || name.equals("image") || name.equals("back");
        if (!full && !(rare && draw.nextInt(3) > 0)) {
            same(name, arguments(name));
        }
    }

    private int[] arguments(String name) {
        switch (name) {
            case "node": return row(near(draw.nextBoolean() ? 5 : 1));
            case "vertex": return row(near(draw.nextBoolean() ? 6 : 1));
            case "of": return row(someNode(), near(2));
            case "at": return row(someVertex(), near(3));
            case "lay": return row(someVertex(), someNode(), near(1));
            case "came": return row(near(model.count(2)));
            case "terms": return terms(near(2));
            case "feed": return draw.ints(5).toArray();
            case "end": return row(near(model.count(7)));
            case "force": case "compare": return row(near(Math.max(1, model.count(5))) - 1);
            case "edge": return row(someNode(), someNode());
            case "link": return row(someVertex(), someVertex());
            case "paint": return row(someNode(), near(draw.nextBoolean() ? 5 : 1));
            case "dye": return row(someVertex(), near(draw.nextBoolean() ? 6 : 1));
            case "way": return row(near(model.ways() + 1), someVertex());
            case "onceWay": return row(near(model.once() + 1), someVertex());
            case "best": return row(someVertex() - (draw.nextInt(4) == 0 ? 1 : 0));
            case "candidates": return row(someVertex(), near(draw.nextBoolean() ? 3 : 9));
            case "steps": return row(near(2));
            case "within": return row(near(draw.nextBoolean() ? 30 : 9999));
            case "kind": return row(someNode() - (draw.nextInt(4) == 0 ? 1 : 0), near(draw.nextBoolean() ? 3 : 12));
            case "sets": return row(near(60));
            case "seen": return row(someVertex(), someNode());
            case "look": case "image": case "back": return row(near(1));
            case "few": return row(near(20), near(99));
            case "days": return row(draw.nextInt(20) == 0 ? draw.nextInt() : draw.nextInt(1_000_001), near(60));
            case "drawn": return row(someNode(), near(1));
            case "count": return row(near(16));
            default: return row();
        }
    }

    private int[] terms(int what) {
        return row(what, near(what == 0 ? 999 : what == 1 ? 10 : 9));
    }

    private static int[] row(int... numbers) {
        return numbers;
    }

    // ---- comparing

    /** Nothing is asked any more once an answer was wrong, or the desk has been asked as often as it may be. */
    private void same(String name, int... a) {
        if (!good || calls(desk) >= CALLS_MOST) {
            return;
        }
        told.append(told(name, a));
        long want = modelAnswer(name, a);
        long got = ask(desk, name, a);
        told.append(" -> ").append(got).append('\n');
        if (got != want) {
            told.append("   the model answers ").append(want).append('\n');
            good = false;
        }
    }

    /** So that a state that went wrong shows even if nothing asked for it. */
    private void lookAtAll() {
        same("status");
        for (int what = 0; what <= 16; what++) {
            same("count", what);
        }
        for (int i = 0; i < model.count(2); i++) {
            same("came", i);
        }
    }

    private long modelAnswer(String name, int[] a) {
        try {
            Object[] boxed = java.util.Arrays.stream(a).boxed().toArray();
            return ((Number) MODEL.get(name).invoke(model, boxed)).longValue();
        } catch (IllegalAccessException | InvocationTargetException e) {
            throw new IllegalStateException(e);
        }
    }

    // ---- texts

    private void feedText(String text) {
        if (model.count(7) > 0 && draw.nextInt(10) > 0) {
            same("end", 0);
        }
        told.append("text ").append(text).append('\n');
        int length = model.count(7) + text.length();
        for (int from = 0; from < text.length(); from += 20) {
            same("feed", packed(text + Character.toString(draw.nextInt(256)).repeat(20), from));
        }
        if (length <= model.count(7)) {
            same("end", length);
        }
    }

    private String rowBytes() {
        StringBuilder b = new StringBuilder();
        int n = draw.nextInt(24);
        for (int i = 0; i < n; i++) {
            b.append((char) (draw.nextInt(20) == 0 ? draw.nextInt(256) : draw.nextInt(Math.max(1, model.count(0)))));
        }
        return b.toString();
    }

    private int room;

    private String lawText() {
        return text(false);
    }

    private String ordersText() {
        return text(true);
    }

    private String text(boolean orders) {
        room = 4 + draw.nextInt(48);
        StringBuilder b = new StringBuilder();
        int clauses = draw.nextInt(12) == 0 ? 10 + draw.nextInt(5) : 1 + draw.nextInt(4);
        for (int c = 0; c < clauses; c++) {
            if (c > 0) {
                b.append(';');
            }
            if (orders) {
                order(b);
            } else {
                rule(b);
            }
        }
        if (draw.nextInt(6) == 0 && b.length() > 0) {
            spoil(b);
        }
        if (draw.nextInt(8) == 0) {
            b.append("  ");
        }
        return b.length() > 400 ? b.substring(0, 400) : b.toString();
    }

    private void spoil(StringBuilder b) {
        int at = draw.nextInt(b.length());
        switch (draw.nextInt(5)) {
            case 0: b.deleteCharAt(at); break;
            case 1: b.setCharAt(at, (char) draw.nextInt(256)); break;
            case 2: b.insert(at, "[]()<>=+-*/%;not and or if 1001 7 Z".charAt(draw.nextInt(35))); break;
            case 3: b.setLength(at); break;
            default: b.insert(at, new String[] {" [[[[[[[[[", " not (", " 1001 ", " degree ", " times 21", " if 1<2", ";", " 007 "}[draw.nextInt(8)]);
        }
    }

    private void rule(StringBuilder b) {
        if (draw.nextInt(3) > 0) {
            b.append("costs ");
            sum(b, 0, false);
        } else {
            b.append("bars");
        }
        if (draw.nextInt(3) > 0) {
            b.append(" if ");
            test(b, 0, false);
        }
    }

    private void order(StringBuilder b) {
        int verb = draw.nextInt(4);
        b.append(new String[] {"join ", "tie ", "paint ", "dye "}[verb]);
        argument(b, verb == 0 || verb == 2 ? model.count(0) : model.count(1));
        b.append(verb < 2 ? " to " : " as ");
        argument(b, verb == 0 ? model.count(0) : verb == 1 ? model.count(1) : 6);
        if (draw.nextInt(4) == 0) {
            b.append(" times ").append(near(draw.nextBoolean() ? 4 : 20));
        }
        if (draw.nextInt(3) == 0) {
            b.append(" if ");
            test(b, 0, true);
        }
    }

    private void argument(StringBuilder b, int below) {
        if (draw.nextInt(5) > 0) {
            b.append(draw.nextInt(Math.max(1, below)));
            if (draw.nextInt(3) == 0) {
                b.append(draw.nextInt(3) == 0 ? " + latest" : draw.nextBoolean() ? "+done" : " -degree " + draw.nextInt(5));
            }
            if (draw.nextInt(3) == 0) {
                b.append(" % ").append(Math.max(1, below));
            }
        } else if (draw.nextBoolean()) {
            b.append('[');
            sum(b, 1, true);
            b.append("] % ").append(Math.max(1, below));
        } else {
            sum(b, 0, true);
        }
    }

    private void test(StringBuilder b, int depth, boolean orders) {
        int n = 1 + (draw.nextInt(3) == 0 ? 1 + draw.nextInt(2) : 0);
        for (int i = 0; i < n; i++) {
            if (i > 0) {
                b.append(draw.nextBoolean() ? " or " : " and ");
            }
            for (int k = draw.nextInt(8); k > 5; k--) {
                b.append("not ");
            }
            if (draw.nextInt(5) == 0 && depth < 9) {
                b.append('(');
                test(b, depth + 1, orders);
                b.append(')');
            } else {
                sum(b, depth, orders);
                b.append(draw.nextBoolean() ? " " : "").append("<>=".charAt(draw.nextInt(3)));
                sum(b, depth, orders);
            }
        }
    }

    private void sum(StringBuilder b, int depth, boolean orders) {
        int n = 1 + (draw.nextInt(3) == 0 ? 1 + draw.nextInt(3) : 0);
        for (int i = 0; i < n; i++) {
            if (i > 0) {
                b.append("+-*/%".charAt(draw.nextInt(5)));
            }
            if (draw.nextInt(6) == 0 && depth < 10) {
                b.append('[');
                sum(b, depth + 1, orders);
                b.append(']');
            } else {
                part(b, orders);
            }
        }
    }

    private void part(StringBuilder b, boolean orders) {
        room--;
        if (room < 0 || draw.nextBoolean()) {
            b.append(draw.nextInt(4) == 0 ? draw.nextInt(1001) : draw.nextInt(5));
        } else if (orders) {
            String[] words = {"time", "done", "latest", "edges", "ways", "degree "};
            int w = draw.nextInt(6);
            b.append(words[w]).append(w == 5 ? "" + draw.nextInt(12) : "");
        } else {
            b.append(new String[] {"vertex", "node", "colour", "degree", "links", "time", "mood"}[draw.nextInt(7)]);
        }
    }
}
