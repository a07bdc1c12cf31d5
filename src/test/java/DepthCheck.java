import java.io.File;
import java.io.PrintWriter;
import java.io.StringWriter;
import java.util.ArrayList;
import java.util.HashMap;
import java.util.List;
import java.util.Map;
import java.util.Optional;
import java.util.Set;
import java.util.TreeMap;
import java.util.TreeSet;
import java.util.regex.Matcher;
import java.util.regex.Pattern;
import java.util.spi.ToolProvider;

/**
 * Rules 8 and 11 of ../shared/LANGUAGE.md, by the code that javac made: how deep calls go that are no
 * recursion (methods that call one another count as one), and that what is recursive is private.
 */
public final class DepthCheck {
    private static final int DEEPEST = 8;
    private static final Pattern CLASS = Pattern.compile("^(?:\\w+ )*class ([\\w$]+) .*\\{$");
    private static final Pattern METHOD = Pattern.compile("^  ((?:[\\w.$\\[\\]]+ )*)([\\w$]+)\\(.*\\);$");
    private static final Pattern CALL = Pattern.compile("// (?:Interface)?Method (?:([\\w$/]+)\\.)?\"?([\\w<>]+)\"?:");

    private final Map<String, Set<String>> calls = new TreeMap<>();
    private final Set<String> notPrivate = new TreeSet<>();
    private final Map<String, Set<String>> reached = new HashMap<>();
    private final Map<String, List<String>> longest = new HashMap<>();

    public static void main(String[] args) throws Exception {
        Optional<ToolProvider> javap = ToolProvider.findFirst("javap");
        if (javap.isEmpty()) {
            System.out.println("not looked at: this Java has no javap");
            return;
        }
        DepthCheck check = new DepthCheck();
        check.read(javap.get());
        System.exit(check.isKept() ? 0 : 1);
    }

    private void read(ToolProvider javap) throws Exception {
        File folder = new File(SubgraphDesk.class.getProtectionDomain().getCodeSource().getLocation().toURI());
        List<String> given = new ArrayList<>(List.of("-p", "-c"));
        for (String name : folder.list()) {
            if (name.matches("SubgraphDesk(\\$\\w+)?\\.class")) {
                given.add(new File(folder, name).getPath());
            }
        }
        StringWriter told = new StringWriter();
        PrintWriter to = new PrintWriter(told);
        javap.run(to, to, given.toArray(new String[0]));
        note(told.toString());
    }

    private void note(String told) {
        String owner = "";
        String method = "";
        for (String line : told.split("\\R")) {
            Matcher m = CLASS.matcher(line);
            if (m.matches()) {
                owner = m.group(1);
                continue;
            }
            m = METHOD.matcher(line);
            if (m.matches()) {
                method = owner + "." + (m.group(2).equals(owner) ? "<init>" : m.group(2));
                calls.putIfAbsent(method, new TreeSet<>());
                if (!m.group(1).contains("private ")) {
                    notPrivate.add(method);
                }
                continue;
            }
            m = CALL.matcher(line);
            if (m.find() && !method.isEmpty()) {
                calls.get(method).add((m.group(1) == null ? owner : m.group(1)) + "." + m.group(2));
            }
        }
    }

    private Set<String> callsOf(String method) {
        return calls.getOrDefault(method, Set.of());
    }

    /** All that a method calls, by others too. */
    private Set<String> reachedBy(String method) {
        if (!reached.containsKey(method)) {
            Set<String> all = new TreeSet<>();
            List<String> open = new ArrayList<>(callsOf(method));
            while (!open.isEmpty()) {
                String next = open.remove(open.size() - 1);
                if (all.add(next)) {
                    open.addAll(callsOf(next));
                }
            }
            reached.put(method, all);
        }
        return reached.get(method);
    }

    private boolean callOneAnother(String one, String other) {
        return reachedBy(one).contains(other) && reachedBy(other).contains(one);
    }

    /** The longest row of calls that begins with this method, or with one that it calls and that calls it. */
    private List<String> longestFrom(String method) {
        if (!longest.containsKey(method)) {
            List<String> best = List.of();
            for (String from : calls.keySet()) {
                boolean together = from.equals(method) || callOneAnother(from, method);
                for (String to : together ? callsOf(from) : Set.<String>of()) {
                    boolean further = !to.equals(from) && !callOneAnother(from, to);
                    if (further && longestFrom(to).size() > best.size()) {
                        best = longestFrom(to);
                    }
                }
            }
            List<String> row = new ArrayList<>(List.of(method));
            row.addAll(best);
            longest.put(method, row);
        }
        return longest.get(method);
    }

    private boolean isKept() {
        boolean kept = calls.size() > 100;
        int deepest = 0;
        for (String method : calls.keySet()) {
            List<String> row = longestFrom(method);
            deepest = Math.max(deepest, row.size());
            if (row.size() > DEEPEST) {
                System.out.println("rule 11: " + row.size() + " deep: " + row);
                kept = false;
            }
            if (reachedBy(method).contains(method) && notPrivate.contains(method)) {
                System.out.println("rule 8: " + method + " calls itself and is not private");
                kept = false;
            }
        }
        System.out.println(calls.size() + " methods, calls go " + deepest + " deep");
        return kept;
    }
}
