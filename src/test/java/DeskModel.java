import java.util.ArrayDeque;
import java.util.ArrayList;
import java.util.Arrays;
import java.util.Collections;
import java.util.HashSet;
import java.util.LinkedHashMap;
import java.util.List;
import java.util.Map;
import java.util.Set;
import java.util.TreeSet;

/**
 * The document once more, told as naively as can be: lists, snapshots, trees and brute force.
 * It shares no code and no way of working with SubgraphDesk, so that both can be compared.
 */
final class DeskModel {
    // ---- what an image keeps

    private static final class State {
        List<Integer> colours = new ArrayList<>();
        List<List<Integer>> edges = new ArrayList<>();
        List<Integer> hues = new ArrayList<>();
        Set<Set<Integer>> links = new HashSet<>();
        List<int[]> seen = new ArrayList<>();
        int[] terms = {0, 1, 0};
        List<List<Clause>> laws = new ArrayList<>();
        int forced = -1;

        State copy() {
            State s = new State();
            s.colours = new ArrayList<>(colours);
            s.edges = new ArrayList<>(edges);
            s.hues = new ArrayList<>(hues);
            s.links = new HashSet<>(links);
            s.seen = new ArrayList<>(seen);
            s.terms = terms.clone();
            s.laws = new ArrayList<>(laws);
            s.forced = forced;
            return s;
        }
    }

    private static final class Done {
        final int sort;
        final State before;

        Done(int sort, State before) {
            this.sort = sort;
            this.before = before;
        }
    }

    private State st = new State();
    private final State[] images = new State[2];
    private State paper;
    private ArrayDeque<Done> done = new ArrayDeque<>();
    private List<Integer> tape = new ArrayList<>();
    private int smudges;
    private int fault = -1;
    private int stopped = -1;
    private int status;
    private final Map<Integer, Integer> refused = new LinkedHashMap<>();

    private static final class Refused extends RuntimeException {
        final int why;

        Refused(int why) {
            super(null, null, false, false);
            this.why = why;
        }
    }

    private interface Body {
        int run();
    }

    private int call(Body body) {
        try {
            int told = body.run();
            status = 0;
            return told;
        } catch (Refused r) {
            status = r.why;
            refused.merge(r.why, 1, Integer::sum);
            return r.why;
        }
    }

    private static void need(boolean holds, int why) {
        if (!holds) {
            throw new Refused(why);
        }
    }

    private boolean isNode(int n) {
        return n >= 0 && n < st.colours.size();
    }

    private boolean isVertex(int v) {
        return v >= 0 && v < st.hues.size();
    }

    private static List<Integer> pair(int a, int b) {
        return List.of(Math.min(a, b), Math.max(a, b));
    }

    private static boolean joined(State s, int a, int b) {
        return s.edges.contains(pair(a, b));
    }

    private static boolean linked(State s, int a, int b) {
        return s.links.contains(Set.of(a, b));
    }

    private static int degree(State s, int n) {
        if (n < 0 || n >= s.colours.size()) {
            return -1;
        }
        int d = 0;
        for (List<Integer> e : s.edges) {
            if (e.contains(n)) {
                d++;
            }
        }
        return d;
    }

    private int linkCount(int v) {
        int d = 0;
        for (Set<Integer> l : st.links) {
            if (l.contains(v)) {
                d++;
            }
        }
        return d;
    }

    // ---- languages

    private static final class Token {
        final String text;
        final int at;

        Token(String text, int at) {
            this.text = text;
            this.at = at;
        }
    }

    private static final class Node {
        final String op;
        final Node left;
        final Node right;
        final int value;

        Node(String op, Node left, Node right, int value) {
            this.op = op;
            this.left = left;
            this.right = right;
            this.value = value;
        }
    }

    private static final class Clause {
        String verb;
        Node a;
        Node b;
        Node test;
        int times = 1;
    }

    private static final class Broken extends RuntimeException {
        Broken() {
            super(null, null, false, false);
        }
    }

    private static final class Fault extends RuntimeException {
        final int at;

        Fault(int at) {
            super(null, null, false, false);
            this.at = at;
        }
    }

    private static final class Parser {
        final List<Token> tokens = new ArrayList<>();
        final boolean orders;
        int i;
        int parts;
        int open;

        Parser(List<Integer> bytes, boolean orders) {
            this.orders = orders;
            StringBuilder b = new StringBuilder();
            for (int x : bytes) {
                b.append((char) x);
            }
            String text = b.toString();
            java.util.regex.Matcher m =
                java.util.regex.Pattern.compile("[a-z]+|[0-9]+|[^ ]", java.util.regex.Pattern.DOTALL).matcher(text);
            while (m.find()) {
                tokens.add(new Token(m.group(), m.start()));
            }
            tokens.add(new Token("", text.length()));
        }

        String now() {
            return tokens.get(i).text;
        }

        Fault bad() {
            return new Fault(tokens.get(i).at);
        }

        boolean eat(String s) {
            if (!s.isEmpty() && now().equals(s)) {
                i++;
                return true;
            }
            return false;
        }

        void must(String s) {
            if (!eat(s)) {
                throw bad();
            }
        }

        List<Clause> text() {
            List<Clause> all = new ArrayList<>();
            do {
                if (all.size() == 12) {
                    throw bad();
                }
                all.add(clause());
            } while (eat(";"));
            if (!now().isEmpty()) {
                throw bad();
            }
            return all;
        }

        Clause clause() {
            Clause c = new Clause();
            c.verb = now();
            List<String> verbs = orders ? List.of("join", "tie", "paint", "dye") : List.of("costs", "bars");
            if (!verbs.contains(c.verb)) {
                throw bad();
            }
            i++;
            if (!c.verb.equals("bars")) {
                c.a = sum();
            }
            if (orders) {
                must(c.verb.equals("join") || c.verb.equals("tie") ? "to" : "as");
                c.b = sum();
                if (eat("times")) {
                    c.times = number(1, 20);
                }
            }
            if (eat("if")) {
                c.test = test();
            }
            return c;
        }

        int number(int least, int most) {
            if (!now().matches("[0-9]+")) {
                throw bad();
            }
            java.math.BigInteger n = new java.math.BigInteger(now());
            if (n.compareTo(java.math.BigInteger.valueOf(least)) < 0 || n.compareTo(java.math.BigInteger.valueOf(most)) > 0) {
                throw bad();
            }
            i++;
            return n.intValue();
        }

        Node test() {
            Node n = both();
            while (eat("or")) {
                n = new Node("or", n, both(), 0);
            }
            return n;
        }

        Node both() {
            Node n = plain();
            while (eat("and")) {
                n = new Node("and", n, plain(), 0);
            }
            return n;
        }

        void push() {
            if (open == 8) {
                throw bad();
            }
            open++;
        }

        Node plain() {
            if (eat("not")) {
                return new Node("not", plain(), null, 0);
            }
            if (now().equals("(")) {
                push();
                i++;
                Node n = test();
                must(")");
                open--;
                return n;
            }
            Node left = sum();
            String op = now();
            if (!List.of("<", ">", "=").contains(op)) {
                throw bad();
            }
            i++;
            return new Node(op, left, sum(), 0);
        }

        Node sum() {
            Node n = term();
            while (now().equals("+") || now().equals("-")) {
                String op = now();
                i++;
                n = new Node(op, n, term(), 0);
            }
            return n;
        }

        Node term() {
            Node n = part();
            while (now().equals("*") || now().equals("/") || now().equals("%")) {
                String op = now();
                i++;
                n = new Node(op, n, part(), 0);
            }
            return n;
        }

        Node part() {
            if (now().equals("[")) {
                push();
                i++;
                Node n = sum();
                must("]");
                open--;
                return n;
            }
            parts++;
            if (parts > 50) {
                throw bad();
            }
            if (now().matches("[0-9]+")) {
                return new Node("number", null, null, number(0, 1000));
            }
            List<String> words = orders ? List.of("time", "done", "latest", "edges", "ways", "degree")
                : List.of("vertex", "node", "colour", "degree", "links", "time", "mood");
            String word = now();
            if (!words.contains(word)) {
                throw bad();
            }
            i++;
            if (orders && word.equals("degree")) {
                return new Node("degree", null, null, number(0, 11));
            }
            return new Node(word, null, null, 0);
        }
    }

    private interface Words {
        long tell(String word, int n);
    }

    private static long sum(Node n, Words words) {
        if (n.left == null) {
            return n.op.equals("number") ? n.value : words.tell(n.op, n.value);
        }
        long a = sum(n.left, words);
        long b = sum(n.right, words);
        long c;
        switch (n.op) {
            case "+": c = a + b; break;
            case "-": c = a - b; break;
            case "*": c = a * b; break;
            default:
                if (b == 0) {
                    throw new Broken();
                }
                c = n.op.equals("/") ? a / b : a % b;
        }
        if (Math.abs(c) > 1_000_000_000L) {
            throw new Broken();
        }
        return c;
    }

    private static boolean test(Node n, Words words) {
        switch (n.op) {
            case "or": return test(n.left, words) || test(n.right, words);
            case "and": return test(n.left, words) && test(n.right, words);
            case "not": return !test(n.left, words);
            case "<": return sum(n.left, words) < sum(n.right, words);
            case ">": return sum(n.left, words) > sum(n.right, words);
            default: return sum(n.left, words) == sum(n.right, words);
        }
    }

    private static boolean isSo(Node n, Words words) {
        try {
            return n == null || test(n, words);
        } catch (Broken b) {
            return false;
        }
    }

    // ---- laws

    private List<Clause> inForce() {
        return st.forced < 0 ? null : st.laws.get(st.forced);
    }

    private Words lawWords(int v, int n) {
        return (word, ignored) -> {
            switch (word) {
                case "vertex": return v;
                case "node": return n;
                case "colour": return st.colours.get(n);
                case "degree": return degree(st, n);
                case "links": return linkCount(v);
                case "time": return st.terms[0];
                default: return st.terms[2];
            }
        };
    }

    private int cost(List<Clause> law, int v, int n) {
        if (law == null) {
            return 1;
        }
        for (int i = law.size() - 1; i >= 0; i--) {
            Clause c = law.get(i);
            if (c.verb.equals("costs") && isSo(c.test, lawWords(v, n))) {
                try {
                    long x = sum(c.a, lawWords(v, n));
                    return x < 0 ? 0 : x > 99 ? 99 : (int) x;
                } catch (Broken b) {
                    continue;
                }
            }
        }
        return 1;
    }

    private boolean may(List<Clause> law, int v, int n) {
        int hue = st.hues.get(v);
        if (hue != 6 && hue != st.colours.get(n)) {
            return false;
        }
        if (law != null) {
            for (Clause c : law) {
                if (c.verb.equals("bars") && isSo(c.test, lawWords(v, n))) {
                    return false;
                }
            }
        }
        return true;
    }

    // ---- ways

    private List<List<Integer>> allWays(List<Clause> law) {
        boolean[][] may = new boolean[st.hues.size()][st.colours.size()];
        for (int v = 0; v < st.hues.size(); v++) {
            for (int n = 0; n < st.colours.size(); n++) {
                may[v][n] = may(law, v, n);
            }
        }
        List<List<Integer>> all = new ArrayList<>();
        grow(new ArrayList<>(), may, all);
        return all;
    }

    private void grow(List<Integer> row, boolean[][] may, List<List<Integer>> all) {
        int v = row.size();
        if (v == st.hues.size()) {
            all.add(new ArrayList<>(row));
            return;
        }
        for (int n = 0; n < st.colours.size(); n++) {
            boolean good = !row.contains(n) && may[v][n];
            for (int u = 0; u < v && good; u++) {
                good = !linked(st, u, v) || joined(st, row.get(u), n);
            }
            if (good) {
                row.add(n);
                grow(row, may, all);
                row.remove(v);
            }
        }
    }

    private List<List<Integer>> allWays() {
        return allWays(inForce());
    }

    private List<List<Integer>> allSymmetries() {
        List<List<Integer>> rows = new ArrayList<>();
        permute(new ArrayList<>(), rows);
        rows.removeIf(p -> !isSymmetry(p));
        return rows;
    }

    private void permute(List<Integer> row, List<List<Integer>> rows) {
        if (row.size() == st.hues.size()) {
            rows.add(new ArrayList<>(row));
            return;
        }
        for (int u = 0; u < st.hues.size(); u++) {
            if (!row.contains(u)) {
                row.add(u);
                permute(row, rows);
                row.remove(row.size() - 1);
            }
        }
    }

    private boolean isSymmetry(List<Integer> p) {
        for (int v = 0; v < p.size(); v++) {
            if (!st.hues.get(v).equals(st.hues.get(p.get(v)))) {
                return false;
            }
            for (int u = 0; u < v; u++) {
                if (linked(st, u, v) != linked(st, p.get(u), p.get(v))) {
                    return false;
                }
            }
        }
        return true;
    }

    private List<List<Integer>> allOnce() {
        List<List<Integer>> ways = allWays();
        Set<List<Integer>> known = new HashSet<>(ways);
        List<List<Integer>> symmetries = allSymmetries();
        Set<List<Integer>> taken = new HashSet<>();
        List<List<Integer>> once = new ArrayList<>();
        for (List<Integer> way : ways) {
            if (taken.contains(way)) {
                continue;
            }
            once.add(way);
            for (List<Integer> p : symmetries) {
                List<Integer> other = new ArrayList<>();
                for (int v = 0; v < way.size(); v++) {
                    other.add(way.get(p.get(v)));
                }
                if (known.contains(other)) {
                    taken.add(other);
                }
            }
        }
        return once;
    }

    private static int inRow(List<List<Integer>> rows, int i, int v) {
        if (i < 0 || i >= rows.size() || v < 0 || v >= rows.get(i).size()) {
            return -1;
        }
        return rows.get(i).get(v);
    }

    private int sumOf(List<Clause> law, List<Integer> way) {
        int sum = 0;
        for (int v = 0; v < way.size(); v++) {
            sum += cost(law, v, way.get(v));
        }
        return sum;
    }

    // ---- the face

    int node(int colour) {
        return call(() -> {
            need(colour >= 0 && colour <= 5, -1);
            need(st.colours.size() < 12, -5);
            st.colours.add(colour);
            done.clear();
            return st.colours.size() - 1;
        });
    }

    int vertex(int colour) {
        return call(() -> {
            need(colour >= 0 && colour <= 6, -1);
            need(st.hues.size() < 5, -5);
            st.hues.add(colour);
            done.clear();
            return st.hues.size() - 1;
        });
    }

    private static int neighbours(State s, int n) {
        int bits = 0;
        for (int m = 0; m < s.colours.size(); m++) {
            if (joined(s, n, m)) {
                bits |= 1 << m;
            }
        }
        return bits;
    }

    int of(int node, int what) {
        if (!isNode(node)) {
            return -1;
        }
        return what == 0 ? st.colours.get(node) : what == 1 ? degree(st, node) : what == 2 ? neighbours(st, node) : -1;
    }

    int at(int vertex, int what) {
        if (!isVertex(vertex)) {
            return -1;
        }
        if (what == 0) {
            return st.hues.get(vertex);
        }
        if (what == 1) {
            return linkCount(vertex);
        }
        int bits = 0;
        for (int u = 0; u < st.hues.size(); u++) {
            if (u == vertex) {
                continue;
            }
            boolean told = linked(st, u, vertex);
            if (what == 3) {
                told = st.hues.get(u).equals(st.hues.get(vertex));
                for (int w = 0; w < st.hues.size(); w++) {
                    if (w != u && w != vertex && linked(st, w, u) != linked(st, w, vertex)) {
                        told = false;
                    }
                }
            }
            if (told) {
                bits |= 1 << u;
            }
        }
        return what == 2 || what == 3 ? bits : -1;
    }

    int lay(int vertex, int node, int what) {
        if (!isVertex(vertex) || !isNode(node)) {
            return -1;
        }
        return what == 0 ? cost(inForce(), vertex, node) : what == 1 ? may(inForce(), vertex, node) ? 1 : 0 : -1;
    }

    int came(int i) {
        return i < 0 || i >= st.edges.size() ? -1 : 12 * st.edges.get(i).get(0) + st.edges.get(i).get(1);
    }

    int terms(int what, int value) {
        return call(() -> {
            need(what >= 0 && what <= 2, -1);
            need(value >= 0 && value <= new int[] {999, 10, 9}[what], -1);
            int was = st.terms[what];
            st.terms[what] = value;
            done.clear();
            return was;
        });
    }

    int feed(int a, int b, int c, int d, int e) {
        if (tape.size() + 20 > 400) {
            return -1;
        }
        for (int x : new int[] {a, b, c, d, e}) {
            for (byte y : java.nio.ByteBuffer.allocate(4).putInt(x).array()) {
                tape.add(y & 255);
            }
        }
        return tape.size();
    }

    int end(int n) {
        if (n < 0 || n > tape.size()) {
            return -1;
        }
        tape = new ArrayList<>(tape.subList(0, n));
        return n;
    }

    int row() {
        return call(() -> {
            need(!tape.isEmpty(), -6);
            int came = 0;
            int bad = 0;
            for (int i = 0; i < tape.size(); i += 2) {
                if (i + 1 == tape.size()) {
                    bad++;
                    continue;
                }
                int a = tape.get(i);
                int b = tape.get(i + 1);
                if (!isNode(a) || !isNode(b) || a == b || joined(st, a, b)) {
                    bad++;
                } else {
                    st.edges.add(pair(a, b));
                    came++;
                }
            }
            tape.clear();
            smudges = bad;
            done.clear();
            return came;
        });
    }

    int smudges() {
        return smudges;
    }

    private List<Clause> read(boolean orders) {
        List<Integer> bytes = new ArrayList<>(tape);
        tape.clear();
        try {
            List<Clause> all = new Parser(bytes, orders).text();
            fault = -1;
            return all;
        } catch (Fault f) {
            fault = f.at;
            throw new Refused(-6);
        }
    }

    int law() {
        return call(() -> {
            if (st.laws.size() == 6) {
                tape.clear();
                throw new Refused(-5);
            }
            st.laws.add(read(false));
            return st.laws.size() - 1;
        });
    }

    private int ran;
    private int latest;

    int orders() {
        return call(() -> {
            stopped = -1;
            List<Clause> all = read(true);
            State before = st.copy();
            ArrayDeque<Done> doneBefore = new ArrayDeque<>(done);
            ran = 0;
            latest = -1;
            for (int c = 0; c < all.size(); c++) {
                for (int t = 0; t < all.get(c).times; t++) {
                    if (!order(all.get(c))) {
                        stopped = c;
                        st = before;
                        done = doneBefore;
                        throw new Refused(-3);
                    }
                }
            }
            return ran;
        });
    }

    private long orderWord(String word, int n) {
        switch (word) {
            case "time": return st.terms[0];
            case "done": return ran;
            case "latest": return latest;
            case "edges": return st.edges.size();
            case "ways": return allWays().size();
            default: return degree(st, n);
        }
    }

    private boolean order(Clause c) {
        if (!isSo(c.test, this::orderWord)) {
            return true;
        }
        try {
            int a = (int) sum(c.a, this::orderWord);
            int b = (int) sum(c.b, this::orderWord);
            switch (c.verb) {
                case "join": latest = join(a, b); break;
                case "tie": latest = tie(a, b); break;
                case "paint": latest = brush(a, b); break;
                default: latest = dip(a, b); break;
            }
            ran++;
            return true;
        } catch (Broken | Refused x) {
            return false;
        }
    }

    int fault() {
        return fault;
    }

    int stopped() {
        return stopped;
    }

    int force(int law) {
        return call(() -> {
            need(law >= -1 && law < st.laws.size(), -2);
            int was = st.forced;
            st.forced = law;
            return was;
        });
    }

    private void note(int sort) {
        done.addLast(new Done(sort, st.copy()));
        if (done.size() > 16) {
            done.removeFirst();
        }
    }

    private int join(int a, int b) {
        need(a != b, -1);
        need(isNode(a) && isNode(b), -2);
        note(0);
        if (st.edges.remove(pair(a, b))) {
            return 0;
        }
        st.edges.add(pair(a, b));
        return 1;
    }

    private int tie(int a, int b) {
        need(a != b, -1);
        need(isVertex(a) && isVertex(b), -2);
        note(1);
        if (st.links.remove(Set.of(a, b))) {
            return 0;
        }
        st.links.add(Set.of(a, b));
        return 1;
    }

    private int brush(int n, int colour) {
        need(colour >= 0 && colour <= 5, -1);
        need(isNode(n), -2);
        need(st.colours.get(n) != colour, -3);
        note(2);
        return st.colours.set(n, colour);
    }

    private int dip(int v, int colour) {
        need(colour >= 0 && colour <= 6, -1);
        need(isVertex(v), -2);
        need(st.hues.get(v) != colour, -3);
        note(3);
        return st.hues.set(v, colour);
    }

    int edge(int one, int other) {
        return call(() -> join(one, other));
    }

    int link(int one, int other) {
        return call(() -> tie(one, other));
    }

    int paint(int node, int colour) {
        return call(() -> brush(node, colour));
    }

    int dye(int vertex, int colour) {
        return call(() -> dip(vertex, colour));
    }

    int undo() {
        return call(() -> {
            need(!done.isEmpty(), -3);
            Done d = done.removeLast();
            st.edges = new ArrayList<>(d.before.edges);
            st.links = new HashSet<>(d.before.links);
            st.colours = new ArrayList<>(d.before.colours);
            st.hues = new ArrayList<>(d.before.hues);
            return d.sort;
        });
    }

    int ways() {
        return allWays().size();
    }

    int way(int i, int vertex) {
        return inRow(allWays(), i, vertex);
    }

    int once() {
        return allOnce().size();
    }

    int onceWay(int i, int vertex) {
        return inRow(allOnce(), i, vertex);
    }

    int symmetries() {
        return allSymmetries().size();
    }

    int best(int vertex) {
        if (vertex != -1 && !isVertex(vertex)) {
            return -1;
        }
        List<Integer> found = null;
        for (List<Integer> way : allWays()) {
            if (found == null || sumOf(inForce(), way) < sumOf(inForce(), found)) {
                found = way;
            }
        }
        return found == null ? -1 : vertex == -1 ? sumOf(inForce(), found) : found.get(vertex);
    }

    private List<Set<Integer>> shrunk(int passes) {
        List<Set<Integer>> c = new ArrayList<>();
        for (int v = 0; v < st.hues.size(); v++) {
            Set<Integer> mine = new TreeSet<>();
            for (int n = 0; n < st.colours.size(); n++) {
                if (may(inForce(), v, n) && degree(st, n) >= linkCount(v)) {
                    mine.add(n);
                }
            }
            c.add(mine);
        }
        List<Integer> row = new ArrayList<>();
        int looked = 0;
        while (row.size() < c.size()) {
            if (looked == row.size()) {
                int first = -1;
                for (int v = 0; v < c.size(); v++) {
                    if (!row.contains(v) && (first < 0 || c.get(v).size() < c.get(first).size())) {
                        first = v;
                    }
                }
                row.add(first);
            }
            for (int u = 0; u < c.size(); u++) {
                if (!row.contains(u) && linked(st, row.get(looked), u)) {
                    row.add(u);
                }
            }
            looked++;
        }
        for (int p = 1; p <= passes; p++) {
            List<Integer> order = new ArrayList<>(row);
            if (p % 2 == 1) {
                Collections.reverse(order);
            }
            for (int v : order) {
                c.get(v).removeIf(n -> {
                    for (int u = 0; u < c.size(); u++) {
                        if (u != v && linked(st, u, v) && c.get(u).stream().noneMatch(m -> m != (int) n && joined(st, n, m))) {
                            return true;
                        }
                    }
                    return false;
                });
            }
        }
        return c;
    }

    private static int bits(Iterable<Integer> set) {
        int b = 0;
        for (int x : set) {
            b |= 1 << x;
        }
        return b;
    }

    int candidates(int vertex, int n) {
        if (!isVertex(vertex) || n < 0 || n > 9) {
            return -1;
        }
        return bits(shrunk(n).get(vertex));
    }

    private int stepsTaken;
    private List<Integer> laidAt;

    private List<Integer> open(List<Set<Integer>> able, int[] lie, int v) {
        List<Integer> nodes = new ArrayList<>();
        for (int n : able.get(v)) {
            boolean good = true;
            for (int u = 0; u < lie.length; u++) {
                if (lie[u] == n || lie[u] >= 0 && u != v && linked(st, u, v) && !joined(st, lie[u], n)) {
                    good = false;
                }
            }
            if (good) {
                nodes.add(n);
            }
        }
        return nodes;
    }

    private void search(List<Set<Integer>> able, int[] lie, boolean fewestNext) {
        int next = -1;
        int fewest = 99;
        for (int v = 0; v < lie.length; v++) {
            if (lie[v] < 0 && (next < 0 || fewestNext && open(able, lie, v).size() < fewest)) {
                next = v;
                fewest = open(able, lie, v).size();
            }
        }
        if (next < 0) {
            laidAt.add(stepsTaken);
            return;
        }
        for (int n : open(able, lie, next)) {
            stepsTaken++;
            lie[next] = n;
            search(able, lie, fewestNext);
            lie[next] = -1;
        }
    }

    private void runSearch(int which) {
        List<Set<Integer>> able = shrunk(4);
        if (which == 0) {
            for (int v = 0; v < able.size(); v++) {
                able.get(v).clear();
                for (int n = 0; n < st.colours.size(); n++) {
                    if (may(inForce(), v, n)) {
                        able.get(v).add(n);
                    }
                }
            }
        }
        stepsTaken = 0;
        laidAt = new ArrayList<>();
        int[] lie = new int[able.size()];
        Arrays.fill(lie, -1);
        search(able, lie, which == 2);
    }

    int steps(int search) {
        if (search < 0 || search > 2) {
            return -1;
        }
        runSearch(search);
        return stepsTaken;
    }

    int within(int n) {
        if (n < 0 || n > 9999) {
            return -1;
        }
        runSearch(2);
        int laid = 0;
        for (int at : laidAt) {
            if (at <= n) {
                laid++;
            }
        }
        return laid;
    }

    int kind(int node, int n) {
        if (n < 0 || n > 12 || node != -1 && !isNode(node)) {
            return -1;
        }
        List<Integer> kinds = numbered(new ArrayList<>(st.colours));
        for (int r = 0; r < n; r++) {
            List<List<Object>> told = new ArrayList<>();
            for (int a = 0; a < kinds.size(); a++) {
                List<Integer> around = new ArrayList<>();
                for (int b = 0; b < kinds.size(); b++) {
                    if (joined(st, a, b)) {
                        around.add(kinds.get(b));
                    }
                }
                Collections.sort(around);
                told.add(List.of(kinds.get(a), around));
            }
            kinds = numbered(told);
        }
        return node == -1 ? new HashSet<>(kinds).size() : kinds.get(node);
    }

    private static <T> List<Integer> numbered(List<T> things) {
        Map<T, Integer> numbers = new LinkedHashMap<>();
        List<Integer> told = new ArrayList<>();
        for (T t : things) {
            numbers.putIfAbsent(t, numbers.size());
            told.add(numbers.get(t));
        }
        return told;
    }

    int sets(int n) {
        if (n < 0 || n > 60) {
            return -1;
        }
        Set<Integer> sets = new HashSet<>();
        List<List<Integer>> ways = allWays();
        for (int i = 0; i < n && i < ways.size(); i++) {
            sets.add(bits(ways.get(i)));
        }
        return sets.size();
    }

    int touched() {
        int b = 0;
        for (List<Integer> way : allWays()) {
            b |= bits(way);
        }
        return b;
    }

    int seen(int vertex, int node) {
        return call(() -> {
            need(isVertex(vertex) && isNode(node), -2);
            need(st.seen.size() < 6, -5);
            st.seen.add(new int[] {vertex, node});
            return st.seen.size();
        });
    }

    int forget() {
        int was = st.seen.size();
        st.seen = new ArrayList<>();
        return was;
    }

    private List<List<Integer>> fits() {
        List<List<Integer>> ways = allWays();
        ways.removeIf(way -> {
            for (int[] s : st.seen) {
                if (way.get(s[0]) != s[1]) {
                    return true;
                }
            }
            return false;
        });
        return ways;
    }

    int fitting() {
        return fits().size();
    }

    int look(int what) {
        List<List<Integer>> ways = fits();
        if (ways.isEmpty() || what < 0 || what > 1) {
            return -1;
        }
        int found = -1;
        int least = Integer.MAX_VALUE;
        for (int v = 0; v < st.hues.size(); v++) {
            int[] often = new int[12];
            for (List<Integer> way : ways) {
                often[way.get(v)]++;
            }
            int most = Arrays.stream(often).max().getAsInt();
            if (most < least) {
                least = most;
                found = v;
            }
        }
        return found < 0 || what == 0 ? found : least;
    }

    long few(int k, int n) {
        if (k < 1 || k > 20 || n < 0 || n > 99) {
            return -1;
        }
        long[] parts = new long[n + 2];
        parts[0] = 1_000_000_000_000L;
        for (int mark = 0; mark < n; mark++) {
            long[] next = new long[n + 2];
            for (int j = 0; j <= n; j++) {
                next[j] += parts[j] * (10 - st.terms[1]) / 10;
                next[j + 1] += parts[j] * st.terms[1] / 10;
            }
            parts = next;
        }
        long sum = 0;
        for (int j = 0; j < k && j < parts.length; j++) {
            sum += parts[j];
        }
        return sum;
    }

    int compare(int law) {
        if (law < -1 || law >= st.laws.size()) {
            return -1;
        }
        List<Clause> text = law < 0 ? null : st.laws.get(law);
        int least = -1;
        for (List<Integer> way : allWays(text)) {
            int sum = sumOf(text, way);
            if (least < 0 || sum < least) {
                least = sum;
            }
        }
        return least;
    }

    private long s;

    private int draw(int m) {
        s = (s * 1103 + 12345) % 1_000_003;
        return (int) (s % m);
    }

    int days(int seed, int n) {
        return call(() -> {
            need(seed >= 0 && seed <= 1_000_000 && n >= 1 && n <= 60, -1);
            need(!st.colours.isEmpty(), -3);
            paper = st.copy();
            s = seed;
            for (int i = 0; i < n; i++) {
                if (paper.terms[0] >= 999) {
                    break;
                }
                int a = draw(paper.colours.size());
                int b = draw(paper.colours.size());
                int c = draw(6);
                int d = draw(4);
                if (d <= 1 && a != b && !paper.edges.remove(pair(a, b))) {
                    paper.edges.add(pair(a, b));
                } else if (d == 2) {
                    paper.colours.set(a, c);
                }
                paper.terms[0]++;
            }
            return paper.edges.size();
        });
    }

    int drawn(int node, int what) {
        if (paper == null || node < 0 || node >= paper.colours.size()) {
            return -1;
        }
        return what == 0 ? paper.colours.get(node) : what == 1 ? neighbours(paper, node) : -1;
    }

    int image(int k) {
        return call(() -> {
            need(k == 0 || k == 1, -1);
            images[k] = st.copy();
            return 0;
        });
    }

    int back(int k) {
        return call(() -> {
            need(k == 0 || k == 1, -1);
            need(images[k] != null, -2);
            st = images[k].copy();
            done.clear();
            return 0;
        });
    }

    int count(int what) {
        switch (what) {
            case 0: return st.colours.size();
            case 1: return st.hues.size();
            case 2: return st.edges.size();
            case 3: return st.links.size();
            case 4: return st.seen.size();
            case 5: return st.laws.size();
            case 6: return done.size();
            case 7: return tape.size();
            case 8: return refused.getOrDefault(-1, 0);
            case 9: return refused.getOrDefault(-2, 0);
            case 10: return refused.getOrDefault(-3, 0);
            case 11: return refused.getOrDefault(-5, 0);
            case 12: return refused.getOrDefault(-6, 0);
            case 13: return st.forced;
            case 14: case 15: case 16: return st.terms[what - 14];
            default: return -1;
        }
    }

    int status() {
        return status;
    }
}
