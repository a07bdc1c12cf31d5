import java.util.Random;

/**
 * Drawn runs: SubgraphDesk and the naive DeskModel must answer alike. Some runs are long rows of
 * all calls, the others make a graph, a pattern and a law and then ask all that can be asked.
 */
public final class ModelRuns {
    private static final int CALLS = 512;
    private static final String[] NAMES = {
        "node", "vertex", "of", "at", "lay", "came", "terms", "feed", "end", "row", "smudges", "law", "orders",
        "fault", "stopped", "force", "edge", "link", "paint", "dye", "undo", "ways", "way", "once", "onceWay",
        "symmetries", "best", "candidates", "steps", "within", "kind", "sets", "touched", "seen", "forget",
        "fitting", "look", "few", "compare", "days", "drawn", "image", "back", "count", "status"
    };

    private final Random draw;
    private final SubgraphDesk desk = new SubgraphDesk();
    private final DeskModel model = new DeskModel();
    private final StringBuilder told = new StringBuilder();
    private final int nodesMost;
    private final int verticesMost;
    private int texts;

    private ModelRuns(long seed) {
        draw = new Random(seed);
        boolean large = draw.nextInt(12) == 0;
        nodesMost = large ? 12 : 2 + draw.nextInt(6);
        verticesMost = large ? 2 + draw.nextInt(2) : 1 + draw.nextInt(5);
    }

    public static void main(String[] args) {
        long first = args.length > 0 ? Long.parseLong(args[0]) : 1;
        int runs = args.length > 1 ? Integer.parseInt(args[1]) : 600;
        int wrong = 0;
        long goodLaws = 0;
        long goodOrders = 0;
        for (long seed = first; seed < first + runs && wrong < 3; seed++) {
            ModelRuns run = new ModelRuns(seed);
            if (!(seed % 3 == 0 ? run.askAll() : run.runAll())) {
                wrong++;
                System.out.println("seed " + seed + ":\n" + run.told);
            }
            goodLaws += run.goodLaws;
            goodOrders += run.goodOrders;
        }
        System.out.println(runs + " runs, " + goodLaws + " laws and " + goodOrders + " orders read well, wrong: " + wrong);
        if (wrong > 0) {
            System.exit(1);
        }
    }

    private int goodLaws;
    private int goodOrders;

    private boolean runAll() {
        int made = 0;
        int prologue = draw.nextInt(30);
        while (made < CALLS) {
            int kind = draw.nextInt(100);
            if (made < prologue) {
                if (!step(draw.nextBoolean() ? "node" : draw.nextBoolean() ? "vertex" : draw.nextInt(3) > 0 ? "edge" : "link")) {
                    return false;
                }
                made++;
            } else if (kind < 12) {
                int used = feedText(kind < 5 ? lawText() : kind < 10 ? ordersText() : rowBytes());
                if (used < 0) {
                    return false;
                }
                made += used + 3;
                String reader = kind < 5 ? "law" : kind < 10 ? "orders" : "row";
                if (!step(reader) || !step("fault") || !step("stopped")) {
                    return false;
                }
                if (kind < 5 && model.status() == 0) {
                    goodLaws++;
                    if (draw.nextInt(3) > 0 && !same("force", model.count(5) - 1)) {
                        return false;
                    }
                }
                if (kind >= 5 && kind < 10 && model.status() == 0) {
                    goodOrders++;
                }
            } else if (kind < 35) {
                if (!step(new String[] {"edge", "edge", "edge", "link", "paint", "dye", "undo", "undo"}[draw.nextInt(8)])) {
                    return false;
                }
                made++;
            } else {
                if (!step(NAMES[draw.nextInt(NAMES.length)])) {
                    return false;
                }
                made++;
            }
        }
        return true;
    }

    /** So that a candidate, a step or a kind that is wrong in few graphs alone is met. */
    private boolean askAll() {
        int nodes = 3 + draw.nextInt(10);
        int vertices = 1 + draw.nextInt(5);
        int colours = 1 + draw.nextInt(3);
        for (int i = 0; i < nodes; i++) {
            same("node", draw.nextInt(colours));
        }
        for (int i = 0; i < vertices; i++) {
            same("vertex", draw.nextInt(4) > 0 ? draw.nextInt(colours) : 6);
        }
        int density = 1 + draw.nextInt(5);
        for (int i = 0; i < nodes * nodes; i++) {
            if (draw.nextInt(10) < density) {
                same("edge", i % nodes, i / nodes);
            }
        }
        for (int v = 1; v < vertices; v++) {
            if (draw.nextInt(8) > 0) {
                same("link", v, draw.nextInt(v));
            }
            if (v > 1 && draw.nextInt(4) == 0) {
                same("link", 0, v);
            }
        }
        StringBuilder law = new StringBuilder("costs [node * 7 + vertex * 3 + colour] % ").append(1 + draw.nextInt(20));
        for (int v = 0; v < vertices; v++) {
            if (draw.nextInt(3) > 0) {
                law.append(";bars if vertex=").append(v).append(" and [node*").append(1 + draw.nextInt(9)).append('+')
                    .append(draw.nextInt(9)).append("]%").append(2 + draw.nextInt(5)).append('<').append(1 + draw.nextInt(2));
            }
        }
        return feedText(law.toString()) >= 0 && same("law") && (draw.nextInt(3) == 0 || same("force", 0)) && askAllNow(nodes, vertices);
    }

    private boolean askAllNow(int nodes, int vertices) {
        boolean good = same("ways") && same("once") && same("symmetries") && same("touched") && same("sets", draw.nextInt(61));
        for (int v = -1; v < vertices && good; v++) {
            good = same("best", v) && same("at", v, 3) && same("way", draw.nextInt(40), v) && same("onceWay", draw.nextInt(20), v);
            for (int n = 0; n <= 9 && good; n++) {
                good = same("candidates", v, n);
            }
            for (int n = 0; n < nodes && good; n++) {
                good = same("lay", v, n, 0) && same("lay", v, n, 1);
            }
        }
        for (int i = 0; i < 3 && good; i++) {
            good = same("steps", i) && same("within", draw.nextInt(40)) && same("within", draw.nextInt(300)) && same("compare", i - 1);
        }
        for (int n = -1; n < nodes && good; n++) {
            good = same("kind", n, draw.nextInt(4)) && same("kind", n, 12);
        }
        for (int i = 0; i < 4 && good; i++) {
            good = same("fitting") && same("look", 0) && same("look", 1)
                && (model.look(0) < 0 || same("seen", draw.nextInt(vertices), draw.nextInt(nodes)));
        }
        return good;
    }

    // ---- arguments

    private int near(int most) {
        int x = draw.nextInt(40);
        if (x == 0) {
            return -1 - draw.nextInt(3);
        }
        if (x == 1) {
            return most + 1 + draw.nextInt(3);
        }
        if (x == 2) {
            return draw.nextInt();
        }
        return draw.nextInt(most + 1);
    }

    private int someNode() {
        return near(Math.max(0, model.count(0) - 1));
    }

    private int someVertex() {
        return near(Math.max(0, model.count(1) - 1));
    }

    private boolean step(String name) {
        switch (name) {
            case "node":
                return model.count(0) < nodesMost ? same(name, near(draw.nextBoolean() ? 5 : 1)) : same("of", someNode(), near(2));
            case "vertex":
                return model.count(1) < verticesMost ? same(name, draw.nextBoolean() ? near(6) : near(1)) : same("at", someVertex(), near(3));
            case "of": return same(name, someNode(), near(2));
            case "at": return same(name, someVertex(), near(3));
            case "lay": return same(name, someVertex(), someNode(), near(1));
            case "came": return same(name, near(Math.max(0, model.count(2))));
            case "terms": {
                int what = near(2);
                return draw.nextInt(4) > 0 || same(name, what, near(what == 0 ? 999 : what == 1 ? 10 : 9));
            }
            case "feed": return draw.nextInt(4) > 0 || same(name, draw.nextInt(), draw.nextInt(), draw.nextInt(), draw.nextInt(), draw.nextInt());
            case "end": return same(name, near(model.count(7)));
            case "force": return same(name, near(Math.max(1, model.count(5))) - 1);
            case "edge": return same(name, someNode(), someNode());
            case "link": return same(name, someVertex(), someVertex());
            case "paint": return same(name, someNode(), near(draw.nextBoolean() ? 5 : 1));
            case "dye": return same(name, someVertex(), draw.nextBoolean() ? near(6) : near(1));
            case "way": return same(name, near(Math.max(1, model.ways() + 1)), someVertex());
            case "onceWay": return same(name, near(Math.max(1, model.once() + 1)), someVertex());
            case "best": return same(name, someVertex() - (draw.nextInt(4) == 0 ? 1 : 0));
            case "candidates": return same(name, someVertex(), near(draw.nextBoolean() ? 3 : 9));
            case "steps": return same(name, near(2));
            case "within": return same(name, near(draw.nextBoolean() ? 30 : 9999));
            case "kind": return same(name, someNode() - (draw.nextInt(4) == 0 ? 1 : 0), near(draw.nextBoolean() ? 3 : 12));
            case "sets": return same(name, near(60));
            case "seen": return same(name, someVertex(), someNode());
            case "look": return same(name, near(1));
            case "few": return same(name, near(20), near(99));
            case "compare": return same(name, near(Math.max(1, model.count(5))) - 1);
            case "days": return same(name, draw.nextInt(20) == 0 ? draw.nextInt() : draw.nextInt(1_000_001), near(60));
            case "drawn": return same(name, someNode(), near(1));
            case "image": case "back": return draw.nextInt(3) > 0 || same(name, near(1));
            case "count": return same(name, near(16));
            default: return same(name);
        }
    }

    private boolean same(String name, int... a) {
        told.append(name).append(java.util.Arrays.toString(a));
        long want = modelCall(name, a);
        long got = deskCall(name, a);
        told.append(" -> ").append(got).append('\n');
        if (got != want) {
            told.append("   the model answers ").append(want).append('\n');
        }
        return got == want && allSame();
    }

    /** So that a state that went wrong shows at once. */
    private boolean allSame() {
        if (desk.status() != model.status()) {
            told.append("status ").append(desk.status()).append(", the model: ").append(model.status()).append('\n');
            return false;
        }
        for (int what = 0; what <= 16; what++) {
            if (desk.count(what) != model.count(what)) {
                told.append("count ").append(what).append('\n');
                return false;
            }
        }
        for (int i = 0; i < model.count(2); i++) {
            if (desk.came(i) != model.came(i)) {
                told.append("came ").append(i).append('\n');
                return false;
            }
        }
        return true;
    }

    private long modelCall(String name, int[] a) {
        DeskModel x = model;
        switch (name) {
            case "node": return x.node(a[0]);
            case "vertex": return x.vertex(a[0]);
            case "of": return x.of(a[0], a[1]);
            case "at": return x.at(a[0], a[1]);
            case "lay": return x.lay(a[0], a[1], a[2]);
            case "came": return x.came(a[0]);
            case "terms": return x.terms(a[0], a[1]);
            case "feed": return x.feed(a[0], a[1], a[2], a[3], a[4]);
            case "end": return x.end(a[0]);
            case "row": return x.row();
            case "smudges": return x.smudges();
            case "law": return x.law();
            case "orders": return x.orders();
            case "fault": return x.fault();
            case "stopped": return x.stopped();
            case "force": return x.force(a[0]);
            case "edge": return x.edge(a[0], a[1]);
            case "link": return x.link(a[0], a[1]);
            case "paint": return x.paint(a[0], a[1]);
            case "dye": return x.dye(a[0], a[1]);
            case "undo": return x.undo();
            case "ways": return x.ways();
            case "way": return x.way(a[0], a[1]);
            case "once": return x.once();
            case "onceWay": return x.onceWay(a[0], a[1]);
            case "symmetries": return x.symmetries();
            case "best": return x.best(a[0]);
            case "candidates": return x.candidates(a[0], a[1]);
            case "steps": return x.steps(a[0]);
            case "within": return x.within(a[0]);
            case "kind": return x.kind(a[0], a[1]);
            case "sets": return x.sets(a[0]);
            case "touched": return x.touched();
            case "seen": return x.seen(a[0], a[1]);
            case "forget": return x.forget();
            case "fitting": return x.fitting();
            case "look": return x.look(a[0]);
            case "few": return x.few(a[0], a[1]);
            case "compare": return x.compare(a[0]);
            case "days": return x.days(a[0], a[1]);
            case "drawn": return x.drawn(a[0], a[1]);
            case "image": return x.image(a[0]);
            case "back": return x.back(a[0]);
            case "count": return x.count(a[0]);
            default: return x.status();
        }
    }

    private long deskCall(String name, int[] a) {
        SubgraphDesk x = desk;
        switch (name) {
            case "node": return x.node(a[0]);
            case "vertex": return x.vertex(a[0]);
            case "of": return x.of(a[0], a[1]);
            case "at": return x.at(a[0], a[1]);
            case "lay": return x.lay(a[0], a[1], a[2]);
            case "came": return x.came(a[0]);
            case "terms": return x.terms(a[0], a[1]);
            case "feed": return x.feed(a[0], a[1], a[2], a[3], a[4]);
            case "end": return x.end(a[0]);
            case "row": return x.row();
            case "smudges": return x.smudges();
            case "law": return x.law();
            case "orders": return x.orders();
            case "fault": return x.fault();
            case "stopped": return x.stopped();
            case "force": return x.force(a[0]);
            case "edge": return x.edge(a[0], a[1]);
            case "link": return x.link(a[0], a[1]);
            case "paint": return x.paint(a[0], a[1]);
            case "dye": return x.dye(a[0], a[1]);
            case "undo": return x.undo();
            case "ways": return x.ways();
            case "way": return x.way(a[0], a[1]);
            case "once": return x.once();
            case "onceWay": return x.onceWay(a[0], a[1]);
            case "symmetries": return x.symmetries();
            case "best": return x.best(a[0]);
            case "candidates": return x.candidates(a[0], a[1]);
            case "steps": return x.steps(a[0]);
            case "within": return x.within(a[0]);
            case "kind": return x.kind(a[0], a[1]);
            case "sets": return x.sets(a[0]);
            case "touched": return x.touched();
            case "seen": return x.seen(a[0], a[1]);
            case "forget": return x.forget();
            case "fitting": return x.fitting();
            case "look": return x.look(a[0]);
            case "few": return x.few(a[0], a[1]);
            case "compare": return x.compare(a[0]);
            case "days": return x.days(a[0], a[1]);
            case "drawn": return x.drawn(a[0], a[1]);
            case "image": return x.image(a[0]);
            case "back": return x.back(a[0]);
            case "count": return x.count(a[0]);
            default: return x.status();
        }
    }

    // ---- texts

    /** How many calls it took; -1 if an answer was wrong. */
    private int feedText(String text) {
        int used = 0;
        if (model.count(7) > 0 && draw.nextInt(10) > 0) {
            if (!same("end", 0)) {
                return -1;
            }
            used++;
        }
        told.append("text ").append(text).append('\n');
        int at = model.count(7) + text.length();
        for (int i = 0; i < text.length(); i += 20) {
            int[] packed = new int[5];
            for (int k = 0; k < 20; k++) {
                int b = i + k < text.length() ? text.charAt(i + k) : draw.nextInt(256);
                packed[k / 4] = packed[k / 4] << 8 | b;
            }
            if (!same("feed", packed)) {
                return -1;
            }
            used++;
        }
        if (at <= model.count(7) && !same("end", at)) {
            return -1;
        }
        return used + 1;
    }

    private String rowBytes() {
        StringBuilder b = new StringBuilder();
        int n = draw.nextInt(24);
        for (int i = 0; i < n; i++) {
            b.append((char) (draw.nextInt(20) == 0 ? draw.nextInt(256) : draw.nextInt(Math.max(1, model.count(0)))));
        }
        return b.toString();
    }

    private int room;

    private String lawText() {
        return text(false);
    }

    private String ordersText() {
        return text(true);
    }

    private String text(boolean orders) {
        texts++;
        room = 4 + draw.nextInt(48);
        StringBuilder b = new StringBuilder();
        int clauses = draw.nextInt(12) == 0 ? 10 + draw.nextInt(5) : 1 + draw.nextInt(4);
        for (int c = 0; c < clauses; c++) {
            if (c > 0) {
                b.append(';');
            }
            if (orders) {
                order(b);
            } else {
                rule(b);
            }
        }
        if (draw.nextInt(6) == 0 && b.length() > 0) {
            spoil(b);
        }
        if (draw.nextInt(8) == 0) {
            b.append("  ");
        }
        return b.length() > 400 ? b.substring(0, 400) : b.toString();
    }

    private void spoil(StringBuilder b) {
        int at = draw.nextInt(b.length());
        switch (draw.nextInt(5)) {
            case 0: b.deleteCharAt(at); break;
            case 1: b.setCharAt(at, (char) draw.nextInt(256)); break;
            case 2: b.insert(at, "[]()<>=+-*/%;not and or if 1001 7 Z".charAt(draw.nextInt(35))); break;
            case 3: b.setLength(at); break;
            default: b.insert(at, new String[] {" [[[[[[[[[", " not (", " 1001 ", " degree ", " times 21", " if 1<2", ";", " 007 "}[draw.nextInt(8)]);
        }
    }

    private void rule(StringBuilder b) {
        if (draw.nextInt(3) > 0) {
            b.append("costs ");
            sum(b, 0, false);
        } else {
            b.append("bars");
        }
        if (draw.nextInt(3) > 0) {
            b.append(" if ");
            test(b, 0, false);
        }
    }

    private void order(StringBuilder b) {
        int verb = draw.nextInt(4);
        b.append(new String[] {"join ", "tie ", "paint ", "dye "}[verb]);
        argument(b, verb == 0 || verb == 2 ? model.count(0) : model.count(1));
        b.append(verb < 2 ? " to " : " as ");
        argument(b, verb == 0 ? model.count(0) : verb == 1 ? model.count(1) : 6);
        if (draw.nextInt(4) == 0) {
            b.append(" times ").append(near(draw.nextBoolean() ? 4 : 20));
        }
        if (draw.nextInt(3) == 0) {
            b.append(" if ");
            test(b, 0, true);
        }
    }

    private void argument(StringBuilder b, int below) {
        if (draw.nextInt(5) > 0) {
            b.append(draw.nextInt(Math.max(1, below)));
            if (draw.nextInt(3) == 0) {
                b.append(draw.nextInt(3) == 0 ? " + latest" : draw.nextBoolean() ? "+done" : " -degree " + draw.nextInt(5));
            }
            if (draw.nextInt(3) == 0) {
                b.append(" % ").append(Math.max(1, below));
            }
        } else if (draw.nextBoolean()) {
            b.append('[');
            sum(b, 1, true);
            b.append("] % ").append(Math.max(1, below));
        } else {
            sum(b, 0, true);
        }
    }

    private void test(StringBuilder b, int depth, boolean orders) {
        int n = 1 + (draw.nextInt(3) == 0 ? 1 + draw.nextInt(2) : 0);
        for (int i = 0; i < n; i++) {
            if (i > 0) {
                b.append(draw.nextBoolean() ? " or " : " and ");
            }
            for (int k = draw.nextInt(8); k > 5; k--) {
                b.append("not ");
            }
            if (draw.nextInt(5) == 0 && depth < 9) {
                b.append('(');
                test(b, depth + 1, orders);
                b.append(')');
            } else {
                sum(b, depth, orders);
                b.append(draw.nextBoolean() ? " " : "").append("<>=".charAt(draw.nextInt(3)));
                sum(b, depth, orders);
            }
        }
    }

    private void sum(StringBuilder b, int depth, boolean orders) {
        int n = 1 + (draw.nextInt(3) == 0 ? 1 + draw.nextInt(3) : 0);
        for (int i = 0; i < n; i++) {
            if (i > 0) {
                b.append("+-*/%".charAt(draw.nextInt(5)));
            }
            if (draw.nextInt(6) == 0 && depth < 10) {
                b.append('[');
                sum(b, depth + 1, orders);
                b.append(']');
            } else {
                part(b, orders);
            }
        }
    }

    private void part(StringBuilder b, boolean orders) {
        room--;
        if (room < 0 || draw.nextBoolean()) {
            b.append(draw.nextInt(4) == 0 ? draw.nextInt(1001) : draw.nextInt(5));
        } else if (orders) {
            String[] words = {"time", "done", "latest", "edges", "ways", "degree "};
            int w = draw.nextInt(6);
            b.append(words[w]).append(w == 5 ? "" + draw.nextInt(12) : "");
        } else {
            b.append(new String[] {"vertex", "node", "colour", "degree", "links", "time", "mood"}[draw.nextInt(7)]);
        }
    }
}
