import java.io.IOException;
import java.lang.reflect.Constructor;
import java.lang.reflect.Field;
import java.lang.reflect.Method;
import java.lang.reflect.Modifier;
import java.nio.file.Files;
import java.nio.file.Path;
import java.util.ArrayList;
import java.util.List;
import java.util.Set;
import java.util.TreeSet;
import java.util.regex.Matcher;
import java.util.regex.Pattern;

/** Looks at the class for what LANGUAGE.md forbids, as far as words and shapes tell it. Run from the project's root. */
public final class LanguageRules {
    private static int wrong;

    private static void need(boolean holds, String what) {
        if (!holds) {
            wrong++;
            System.out.println(what);
        }
    }

    public static void main(String[] args) throws IOException {
        String source = Files.readString(Path.of("src/main/java/WindwardScheme.java"));
        String code = source.replaceAll("(?s)/\\*.*?\\*/", " ").replaceAll("//[^\n]*", " ");
        String bare = code.replaceAll("\"(\\\\.|[^\"\\\\])*\"", "\"\"").replaceAll("'(\\\\.|[^'\\\\])'", "' '");
        words(bare);
        face();
        members();
        lengths(bare);
        depths();
        need(source.chars().allMatch(c -> c == '\n' || c >= 32 && c < 127), "rule 4: a sign that is not 32 to 126");
        System.out.println(wrong == 0 ? "no broken rule was found" : wrong + " rules are broken");
        if (wrong != 0) System.exit(1);
    }

    private static void words(String bare) {
        String[] forbidden = {"->", "::", "\\bcatch\\b", "\\btry\\b", "\\bfinally\\b", "\\bsynchronized\\b", "\\bassert\\b",
            "\\bvar\\b", "\\bpackage\\b", "Exact\\b", "\\bMath\\.(random|sqrt|pow|floor\\(|ceil|round)", "\\bNaN\\b", "\\bSystem\\.(?!arraycopy)",
            "\\bObject\\b", "\\bextends\\b", "\\bThread\\b", "\\bhashCode\\b", "\\btoString\\b", "\\bstatic\\s*\\{", "\"\"\\s*\\+",
            "\\+\\s*\"\""};
        for (String word : forbidden) need(!Pattern.compile(word).matcher(bare).find(), "forbidden: " + word);
        Matcher imports = Pattern.compile("import ([^;]*);").matcher(bare);
        while (imports.find()) need(imports.group(1).equals("java.util.NoSuchElementException"), "import " + imports.group(1));
        Matcher thrown = Pattern.compile("throw ([^;]*);").matcher(bare);
        String right = "new (IllegalStateException|IllegalArgumentException|IndexOutOfBoundsException|ArithmeticException"
                + "|UnsupportedOperationException|NoSuchElementException)\\(\"\"\\)";
        while (thrown.find()) need(thrown.group(1).matches(right), "rule 6: throw " + thrown.group(1));
        Matcher loops = Pattern.compile("\\bwhile\\b").matcher(bare);
        need(!loops.find(), "rule 9: a while whose end is not seen (use a counter)");
    }

    /** The members of the document's face, by name; nothing else may be seen from outside. */
    private static void face() {
        Set<String> due = new TreeSet<>(List.of("number", "symbol", "truth", "empty", "pair", "data", "kind", "part", "amount",
                "asDouble", "areAlike", "write", "writeExpanded", "charAt", "type", "clear", "read", "begin", "run", "state",
                "valueKind", "valueAmount", "writeValue", "error", "winds", "handlers", "writeGlobal", "meaning",
                "applications", "expansions", "entered", "left", "jumps", "valueShare", "meanApplications", "isSound"));
        Class<?> type = WindwardScheme.class;
        Set<String> seen = new TreeSet<>();
        for (Method m : type.getDeclaredMethods()) {
            if (m.isSynthetic()) continue;
            boolean isPublic = Modifier.isPublic(m.getModifiers());
            if (isPublic) seen.add(m.getName());
            need(isPublic || Modifier.isPrivate(m.getModifiers()), "rule 1: seen in the package: " + m);
            need(isPublic || !due.contains(m.getName()), "rule 1: private and public: " + m);
        }
        need(seen.equals(due), "rule 1: the face is " + seen);
        for (Field f : type.getDeclaredFields()) need(Modifier.isPrivate(f.getModifiers()), "rule 1: seen: " + f);
        Constructor<?>[] made = type.getDeclaredConstructors();
        need(made.length == 1 && Modifier.isPublic(made[0].getModifiers()), "rule 1: constructors");
        need(Modifier.isFinal(type.getModifiers()) && Modifier.isPublic(type.getModifiers()), "rule 1: the class");
        for (Class<?> c : type.getDeclaredClasses()) {
            for (Method m : c.getDeclaredMethods()) need(!due.contains(m.getName()), "rule 1: " + c + " has " + m.getName());
        }
    }

    private static void members() {
        List<Class<?>> classes = new ArrayList<>(List.of(WindwardScheme.class.getDeclaredClasses()));
        classes.add(WindwardScheme.class);
        need(classes.size() <= 12, "rule 11: " + classes.size() + " classes");
        for (Class<?> c : classes) {
            int fields = 0;
            for (Field f : c.getDeclaredFields()) {
                boolean isStatic = Modifier.isStatic(f.getModifiers());
                need(!isStatic || Modifier.isFinal(f.getModifiers()), "rule 5: " + f);
                if (!isStatic) fields++;
            }
            need(fields <= 20, "rule 11: " + c.getSimpleName() + " has " + fields + " fields");
            for (Method m : c.getDeclaredMethods()) {
                need(m.getParameterCount() <= 7, "rule 11: parameters of " + m);
            }
        }
    }

    /** No method is longer than 60 lines, from the line that opens it to the brace that closes it. */
    private static void lengths(String bare) {
        String[] lines = bare.split("\n");
        for (int i = 0; i < lines.length; i++) {
            Matcher open = Pattern.compile("^( {4}| {8})(?! )(?!.*\\bclass\\b).*\\(.*$").matcher(lines[i]);
            if (!open.find()) continue;
            for (int j = i; j < lines.length; j++) {
                if (lines[j].equals(open.group(1) + "}")) {
                    need(j - i < 60, "rule 11: " + (j - i + 1) + " lines: " + lines[i].trim());
                    break;
                }
                if (lines[j].endsWith(";") && lines[j].startsWith(open.group(1)) && lines[j].charAt(open.group(1).length()) != ' ') break;
            }
        }
    }

    // ---- how deep calls go

    private static final java.util.Map<String, Set<String>> CALLS = new java.util.TreeMap<>();

    /** Calls that are no recursion go at most eight deep, counted from a method of the face; as javap tells them. */
    private static void depths() throws IOException {
        java.util.Optional<java.util.spi.ToolProvider> javap = java.util.spi.ToolProvider.findFirst("javap");
        if (javap.isEmpty()) {
            System.out.println("no javap: the depth of calls is not looked at");
            return;
        }
        Path place = Path.of(WindwardScheme.class.getProtectionDomain().getCodeSource().getLocation().getPath());
        for (Class<?> c : WindwardScheme.class.getDeclaredClasses()) readCalls(javap.get(), place, c.getName());
        readCalls(javap.get(), place, "WindwardScheme");
        for (String method : CALLS.keySet()) {
            if (!method.startsWith("WindwardScheme.")) continue;
            int depth = depth(method, new java.util.HashMap<>());
            need(depth <= 8, "rule 11: calls of " + method + " go " + depth + " deep");
        }
    }

    private static void readCalls(java.util.spi.ToolProvider javap, Path place, String name) {
        java.io.StringWriter text = new java.io.StringWriter();
        java.io.PrintWriter out = new java.io.PrintWriter(text);
        javap.run(out, out, "-c", "-p", place.resolve(name + ".class").toString());
        String method = null;
        for (String line : text.toString().split("\n")) {
            Matcher head = Pattern.compile("^  (?! ).*?([\\w$.]+)\\(.*\\).*;$").matcher(line);
            Matcher call = Pattern.compile("invoke\\w+ .*// (?:Interface)?Method ([^:]+):").matcher(line);
            if (head.find()) {
                method = name + "." + (head.group(1).equals(name) ? "<init>" : head.group(1));
                CALLS.computeIfAbsent(method, key -> new TreeSet<>());
            } else if (call.find() && method != null) {
                String called = call.group(1).replace("\"", "");
                called = called.contains(".") ? called : name + "." + called;
                if (called.startsWith("WindwardScheme")) CALLS.get(method).add(called);
            }
        }
    }

    /** Methods that call one another count as one. */
    private static int depth(String method, java.util.Map<String, Integer> known) {
        Integer before = known.get(method);
        if (before != null) return before;
        Set<String> group = new TreeSet<>();
        for (String other : reached(method)) if (reached(other).contains(method)) group.add(other);
        group.add(method);
        int deepest = 0;
        for (String one : group) {
            for (String called : CALLS.getOrDefault(one, Set.of())) {
                if (!group.contains(called)) deepest = Math.max(deepest, depth(called, known));
            }
        }
        known.put(method, deepest + 1);
        return deepest + 1;
    }

    private static final java.util.Map<String, Set<String>> REACHED = new java.util.HashMap<>();

    private static Set<String> reached(String method) {
        Set<String> all = REACHED.get(method);
        if (all != null) return all;
        all = new TreeSet<>();
        java.util.ArrayDeque<String> open = new java.util.ArrayDeque<>(CALLS.getOrDefault(method, Set.of()));
        while (!open.isEmpty()) {
            String one = open.remove();
            if (all.add(one)) open.addAll(CALLS.getOrDefault(one, Set.of()));
        }
        REACHED.put(method, all);
        return all;
    }
}
