import java.lang.reflect.Constructor;
import java.lang.reflect.Field;
import java.lang.reflect.Method;
import java.lang.reflect.Modifier;
import java.nio.file.Files;
import java.nio.file.Path;
import java.util.ArrayList;
import java.util.List;
import java.util.Set;
import java.util.TreeSet;
import java.util.regex.Matcher;
import java.util.regex.Pattern;

/** Looks whether SubgraphDesk.java keeps to ../shared/LANGUAGE.md, as far as a short look can tell. */
public final class LanguageCheck {
    private static final String SOURCE = "src/main/java/SubgraphDesk.java";

    private static int wrong;

    private static void bad(String rule, String what) {
        wrong++;
        System.out.println("rule " + rule + ": " + what);
    }

    public static void main(String[] args) throws Exception {
        String source = Files.readString(Path.of(SOURCE));
        words(source);
        face();
        classes();
        methods(source);
        System.out.println(wrong == 0 ? "the language is kept to" : wrong + " places where it is not");
        if (wrong > 0) {
            System.exit(1);
        }
    }

    private static String bare(String source) {
        return source.replaceAll("(?s)/\\*.*?\\*/", " ").replaceAll("//[^\n]*", " ")
            .replaceAll("\"[^\"]*\"", "\"\"").replaceAll("'[^']*'", "' '");
    }

    private static void words(String source) {
        String code = bare(source);
        String[] never = {"\\bthrow\\b", "\\bthrows\\b", "\\btry\\b", "\\bcatch\\b", "\\bfinally\\b", "\\bsynchronized\\b",
            "\\bassert\\b", "(?m)^(?!\\s*(?:case|default)\\b).*->", "::", "\\bnew\\s+\\w+\\s*\\([^)]*\\)\\s*\\{", "\\bObject\\b", "\\bSystem\\.(?!arraycopy)",
            "\\bMath\\.\\w*Exact", "\\bhashCode\\b", "\\bpackage\\b", "\\bprotected\\b",
            "\\bvolatile\\b", "\\btransient\\b", "\\bnative\\b", "\\bThread\\b", "\\bRandom\\b",
            "\\bObjects\\b", "\\bwhile\\s*\\(\\s*true", "for\\s*\\(\\s*;\\s*;", "\\bvar\\b", "\\byield\\b"};
        for (String word : never) {
            Matcher m = Pattern.compile(word).matcher(code);
            if (m.find()) {
                bad("3, 4, 6", "'" + m.group() + "' stands in the code");
            }
        }
        Matcher imports = Pattern.compile("import\\s+([^;]+);").matcher(code);
        while (imports.find()) {
            if (!Set.of("java.util.Arrays", "java.util.ArrayList", "java.util.List").contains(imports.group(1))) {
                bad("4", "import " + imports.group(1));
            }
        }
        for (char c : source.toCharArray()) {
            if (c > 126) {
                bad("4", "a sign beyond 126: " + (int) c);
            }
        }
    }

    /** As the document writes it, without the names of what is given: "int of(int, int)". */
    private static String told(String shown) {
        return shown.replaceAll("(\\w+) \\w+(?=[,)])", "$1");
    }

    private static String told(Class<?> answer, String name, Class<?>[] given) {
        StringBuilder b = new StringBuilder();
        for (Class<?> one : given) {
            b.append(b.length() > 0 ? ", " : "").append(one.getName());
        }
        return (answer == null ? "" : answer.getName() + " ") + name + "(" + b + ")";
    }

    private static void face() throws Exception {
        Set<String> due = new TreeSet<>();
        for (String line : Document.face()) {
            due.add(told(line));
        }
        Set<String> is = new TreeSet<>();
        is.add("static final int NONE = " + SubgraphDesk.NONE);
        for (Constructor<?> c : SubgraphDesk.class.getDeclaredConstructors()) {
            is.add(told(null, "SubgraphDesk", c.getParameterTypes()));
            if (!Modifier.isPublic(c.getModifiers())) {
                bad("1", c + " is not public");
            }
        }
        for (Method m : SubgraphDesk.class.getDeclaredMethods()) {
            if (Modifier.isPublic(m.getModifiers())) {
                is.add((Modifier.isStatic(m.getModifiers()) ? "static " : "")
                    + told(m.getReturnType(), m.getName(), m.getParameterTypes()));
            } else if (!Modifier.isPrivate(m.getModifiers())) {
                bad("1", m + " is neither public nor private");
            }
        }
        if (!due.equals(is)) {
            bad("1", "the face is " + is + ", the document's is " + due);
        }
        for (Field f : SubgraphDesk.class.getDeclaredFields()) {
            boolean isNone = f.getName().equals("NONE");
            if (!Modifier.isPrivate(f.getModifiers()) && !isNone) {
                bad("1", f.toString());
            }
            int constant = Modifier.PUBLIC | Modifier.STATIC | Modifier.FINAL;
            if (isNone && (f.getModifiers() != constant || f.getType() != int.class)) {
                bad("1", f.toString());
            }
        }
        int m = SubgraphDesk.class.getModifiers();
        if (!Modifier.isPublic(m) || !Modifier.isFinal(m)) {
            bad("1", "the class is not public and final");
        }
    }

    private static void classes() throws Exception {
        Class<?>[] inside = SubgraphDesk.class.getDeclaredClasses();
        if (inside.length + 1 > 12) {
            bad("11", inside.length + 1 + " classes");
        }
        Set<String> names = new TreeSet<>();
        for (Document.Promise p : Document.promises()) {
            names.add(p.name());
        }
        List<Class<?>> all = new ArrayList<>(List.of(inside));
        all.add(SubgraphDesk.class);
        for (Class<?> c : all) {
            if (c != SubgraphDesk.class && (!Modifier.isStatic(c.getModifiers()) || Modifier.isPublic(c.getModifiers()))) {
                bad("2", c.getName());
            }
            int fields = 0;
            for (Field f : c.getDeclaredFields()) {
                if (!Modifier.isStatic(f.getModifiers())) {
                    fields++;
                } else if (!isConstant(f)) {
                    bad("5", f.toString());
                }
            }
            if (fields > 20) {
                bad("11", c.getName() + " has " + fields + " fields");
            }
            for (Method m : c.getDeclaredMethods()) {
                if (m.getParameterCount() > 7) {
                    bad("11", m.toString());
                }
                if (!Modifier.isPublic(m.getModifiers()) && names.contains(m.getName())) {
                    bad("1", m.getName() + " bears the name of a public one");
                }
                if (m.isSynthetic() && !c.isEnum()) {
                    bad("2", m.toString());
                }
            }
        }
    }

    private static boolean isConstant(Field f) {
        Set<Class<?>> types = Set.of(int.class, long.class, boolean.class, char.class, String.class,
            int[].class, long[].class, char[].class, byte[].class);
        return Modifier.isFinal(f.getModifiers()) && (types.contains(f.getType()) || f.getDeclaringClass().isEnum());
    }

    private static void methods(String source) {
        int from = -1;
        String head = "";
        String[] lines = source.split("\n");
        for (int i = 0; i < lines.length; i++) {
            Matcher m = Pattern.compile("^( {4}| {8})[\\w\\[\\] ]+\\([^;]*\\) \\{$").matcher(lines[i]);
            if (m.find() && !lines[i].startsWith("         ")) {
                from = i;
                head = lines[i];
            } else if (from >= 0 && lines[i].equals(head.replaceAll("\\S.*", "") + "}")) {
                if (i - from + 1 > 60) {
                    bad("11", (i - from + 1) + " lines: " + head);
                }
                from = -1;
            }
        }
    }
}
