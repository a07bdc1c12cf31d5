import java.lang.reflect.Field;
import java.lang.reflect.Method;
import java.lang.reflect.Modifier;
import java.nio.file.Files;
import java.nio.file.Path;
import java.util.ArrayList;
import java.util.List;
import java.util.Set;
import java.util.TreeSet;
import java.util.regex.Matcher;
import java.util.regex.Pattern;

/** Looks whether SubgraphDesk.java keeps to ../shared/LANGUAGE.md, as far as a short look can tell. */
public final class LanguageCheck {
    private static final String SOURCE = "src/main/java/SubgraphDesk.java";
    private static final String FACE = "node(int) vertex(int) of(int,int) at(int,int) lay(int,int,int) came(int) terms(int,int) "
        + "feed(int,int,int,int,int) end(int) row() smudges() law() orders() fault() stopped() force(int) edge(int,int) "
        + "link(int,int) paint(int,int) dye(int,int) undo() ways() way(int,int) once() onceWay(int,int) symmetries() best(int) "
        + "candidates(int,int) steps(int) within(int) kind(int,int) sets(int) touched() seen(int,int) forget() fitting() "
        + "look(int) few(int,int) compare(int) days(int,int) drawn(int,int) image(int) back(int) count(int) status()";

    private static int wrong;

    private static void bad(String rule, String what) {
        wrong++;
        System.out.println("rule " + rule + ": " + what);
    }

    public static void main(String[] args) throws Exception {
        String source = Files.readString(Path.of(SOURCE));
        words(source);
        face();
        classes();
        methods(source);
        System.out.println(wrong == 0 ? "the language is kept to" : wrong + " places where it is not");
        if (wrong > 0) {
            System.exit(1);
        }
    }

    private static String bare(String source) {
        return source.replaceAll("(?s)/\\*.*?\\*/", " ").replaceAll("//[^\n]*", " ")
            .replaceAll("\"[^\"]*\"", "\"\"").replaceAll("'[^']*'", "' '");
    }

    private static void words(String source) {
        String code = bare(source);
        String[] never = {"\\bthrow\\b", "\\bthrows\\b", "\\btry\\b", "\\bcatch\\b", "\\bfinally\\b", "\\bsynchronized\\b",
            "\\bassert\\b", "(?m)^(?!\\s*(?:case|default)\\b).*->", "::", "\\bnew\\s+\\w+\\s*\\([^)]*\\)\\s*\\{", "\\bObject\\b", "\\bSystem\\.(?!arraycopy)",
            "\\bMath\\.\\w*Exact", "\\bhashCode\\b", "\\bpackage\\b", "\\bprotected\\b",
            "\\bvolatile\\b", "\\btransient\\b", "\\bnative\\b", "\\bThread\\b", "\\bRandom\\b",
            "\\bObjects\\b", "\\bwhile\\s*\\(\\s*true", "for\\s*\\(\\s*;\\s*;", "\\bvar\\b", "\\byield\\b"};
        for (String word : never) {
            Matcher m = Pattern.compile(word).matcher(code);
            if (m.find()) {
                bad("3, 4, 6", "'" + m.group() + "' stands in the code");
            }
        }
        Matcher imports = Pattern.compile("import\\s+([^;]+);").matcher(code);
        while (imports.find()) {
            if (!Set.of("java.util.Arrays", "java.util.ArrayList", "java.util.List").contains(imports.group(1))) {
                bad("4", "import " + imports.group(1));
            }
        }
        for (char c : source.toCharArray()) {
            if (c > 126) {
                bad("4", "a sign beyond 126: " + (int) c);
            }
        }
    }

    private static void face() {
        Set<String> due = new TreeSet<>(List.of(FACE.split(" ")));
        Set<String> is = new TreeSet<>();
        for (Method m : SubgraphDesk.class.getDeclaredMethods()) {
            if (Modifier.isPublic(m.getModifiers())) {
                StringBuilder b = new StringBuilder();
                for (Class<?> p : m.getParameterTypes()) {
                    b.append(b.length() > 0 ? "," : "").append(p.getName());
                }
                is.add(m.getName() + "(" + b + ")");
                Class<?> told = m.getName().equals("few") ? long.class : int.class;
                if (m.getReturnType() != told || Modifier.isStatic(m.getModifiers())) {
                    bad("1", m.toString());
                }
            } else if (!Modifier.isPrivate(m.getModifiers())) {
                bad("1", m + " is neither public nor private");
            }
        }
        if (!due.equals(is)) {
            bad("1", "the face is " + is);
        }
        for (Field f : SubgraphDesk.class.getDeclaredFields()) {
            if (!Modifier.isPrivate(f.getModifiers()) && !f.getName().equals("NONE")) {
                bad("1", f.toString());
            }
        }
        int m = SubgraphDesk.class.getModifiers();
        if (!Modifier.isPublic(m) || !Modifier.isFinal(m) || SubgraphDesk.class.getDeclaredConstructors().length != 1) {
            bad("1", "the class is not public and final with one constructor");
        }
    }

    private static void classes() {
        Class<?>[] inside = SubgraphDesk.class.getDeclaredClasses();
        if (inside.length + 1 > 12) {
            bad("11", inside.length + 1 + " classes");
        }
        Set<String> names = new TreeSet<>();
        for (String call : FACE.split(" ")) {
            names.add(call.substring(0, call.indexOf('(')));
        }
        List<Class<?>> all = new ArrayList<>(List.of(inside));
        all.add(SubgraphDesk.class);
        for (Class<?> c : all) {
            if (c != SubgraphDesk.class && (!Modifier.isStatic(c.getModifiers()) || Modifier.isPublic(c.getModifiers()))) {
                bad("2", c.getName());
            }
            int fields = 0;
            for (Field f : c.getDeclaredFields()) {
                if (!Modifier.isStatic(f.getModifiers())) {
                    fields++;
                } else if (!isConstant(f)) {
                    bad("5", f.toString());
                }
            }
            if (fields > 20) {
                bad("11", c.getName() + " has " + fields + " fields");
            }
            for (Method m : c.getDeclaredMethods()) {
                if (m.getParameterCount() > 7) {
                    bad("11", m.toString());
                }
                if (!Modifier.isPublic(m.getModifiers()) && names.contains(m.getName())) {
                    bad("1", m.getName() + " bears the name of a public one");
                }
                if (m.isSynthetic() && !c.isEnum()) {
                    bad("2", m.toString());
                }
            }
        }
    }

    private static boolean isConstant(Field f) {
        Set<Class<?>> types = Set.of(int.class, long.class, boolean.class, char.class, String.class,
            int[].class, long[].class, char[].class, byte[].class);
        return Modifier.isFinal(f.getModifiers()) && (types.contains(f.getType()) || f.getDeclaringClass().isEnum());
    }

    private static void methods(String source) {
        int from = -1;
        String head = "";
        String[] lines = source.split("\n");
        for (int i = 0; i < lines.length; i++) {
            Matcher m = Pattern.compile("^( {4}| {8})[\\w\\[\\] ]+\\([^;]*\\) \\{$").matcher(lines[i]);
            if (m.find() && !lines[i].startsWith("         ")) {
                from = i;
                head = lines[i];
            } else if (from >= 0 && lines[i].equals(head.replaceAll("\\S.*", "") + "}")) {
                if (i - from + 1 > 60) {
                    bad("11", (i - from + 1) + " lines: " + head);
                }
                from = -1;
            }
        }
    }
}
