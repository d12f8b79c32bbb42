import java.io.IOException;
import java.io.PrintWriter;
import java.io.StringWriter;
import java.net.URL;
import java.net.URLClassLoader;
import java.nio.file.Files;
import java.nio.file.Path;
import java.util.ArrayList;
import java.util.LinkedHashMap;
import java.util.List;
import java.util.Map;
import java.util.spi.ToolProvider;

/**
 * RandomRuns, DeepRuns and PassRuns on copies of the class in which what is rare is common: no value is held that can be found again,
 * nothing is remembered, tests are not known, images are given up at once. Every answer must still be the same. Run from
 * the project's root. Arguments: how many objects for each copy, the first seed, the copies (if not all of them).
 */
public final class Variants {
    private static final String[] LAZY = {"FEW_ARGUMENTS = 2;", "FEW_ARGUMENTS = 0;"};
    private static final String[] NEVER = and(LAZY, "return history.isRoomy() && (history.now", "return history.now < 0 && (history.now",
        "LEAST_ELAPSED + recentCount / 2 && history.isRoomy()", "LEAST_ELAPSED + recentCount / 2 && history.now < 0");
    private static final String[] ALWAYS = {"% (LEAST_PARTS + count / 2) == 0", "% (LEAST_PARTS + count / 2) >= 0"};
    private static final String[] NO_CACHE = {" LEAST_CACHE = 256;", " LEAST_CACHE = 4;", "MOST_CACHE = 1 << 18;", "MOST_CACHE = 4;",
        "MOST_LASTING = 1 << 22;", "MOST_LASTING = 4;"};
    private static final String[] LITTLE_CACHE = {" LEAST_CACHE = 256;", " LEAST_CACHE = 8;", "MOST_CACHE = 1 << 18;", "MOST_CACHE = 16;"};
    private static final String[] FORGETFUL = and(NO_CACHE, " LEAST_TABLE = 256;", " LEAST_TABLE = 4;", "MOST_KNOWN = 1 << 17;", "MOST_KNOWN = 4;",
        "MOST_PASSES = 1 << 16;", "MOST_PASSES = 4;", "LEAST_RING = 1 << 10;", "LEAST_RING = 1 << 7;", "MOST_RING = 1 << 17;", "MOST_RING = 1 << 7;");
    private static final String[] NO_TESTS = {"MOST_TESTS = 1 << 17;", "MOST_TESTS = 0;", "FEW_TESTS = 20;", "FEW_TESTS = 0;", "TESTS_OF_WORD = 48;", "TESTS_OF_WORD = 0;"};
    private static final String[] TESTS_IN_ROWS = {"FEW_TESTS = 20;", "FEW_TESTS = 0;", "TESTS_OF_WORD = 48;", "TESTS_OF_WORD = 1;"};
    private static final String[] NO_SPARE = {"SPARE_INTERVALS = 64;", "SPARE_INTERVALS = 1 << 20;"};
    private static final String[] MANY_SETTINGS = {"FORGET = 2048;", "FORGET = 1;", "MOST_KEYS = 24;", "MOST_KEYS = 0;", " MOST_RECENT = 2048;", " MOST_RECENT = 2;"};
    private static final String[] OFTEN = {"LEAST_ELAPSED = 64;", "LEAST_ELAPSED = 2;", "LEAST_STABLE = 8;", "LEAST_STABLE = 1;"};

    private static final Map<String, String[]> CHANGES = new LinkedHashMap<>();

    static {
        CHANGES.put("nothing is held", NEVER);
        CHANGES.put("all is held", ALWAYS);
        CHANGES.put("many anchors", and(LAZY, OFTEN));
        CHANGES.put("many anchors, no spare intervals", and(and(and(LAZY, OFTEN), NO_SPARE), NO_CACHE));
        CHANGES.put("nothing is remembered", and(NEVER, FORGETFUL));
        CHANGES.put("no spare intervals", and(NEVER, NO_SPARE));
        CHANGES.put("no spare intervals, nothing is remembered", and(and(NEVER, NO_SPARE), FORGETFUL));
        CHANGES.put("bodies one by one", and(and(and(NEVER, NO_SPARE), NO_CACHE), "MOST_LOOKS = 16;", "MOST_LOOKS = 1 << 19;"));
        CHANGES.put("bodies one by one, tests in rows", and(and(and(and(NEVER, NO_SPARE), NO_CACHE), TESTS_IN_ROWS), "MOST_LOOKS = 16;", "MOST_LOOKS = 2;",
                "TESTS_OF_BODY = 40;", "TESTS_OF_BODY = 2;"));
        CHANGES.put("passes are kept", and(and(and(NEVER, NO_SPARE), NO_CACHE), "MOST_LOOKS = 16;", "MOST_LOOKS = 1 << 19;", "BODIES_OF_PASS = 64;", "BODIES_OF_PASS = 2;"));
        CHANGES.put("all passes are kept", and(and(and(NEVER, NO_SPARE), FORGETFUL), "MOST_LOOKS = 16;", "MOST_LOOKS = 3;", "BODIES_OF_PASS = 64;", "BODIES_OF_PASS = 1;"));
        CHANGES.put("a cache that grows", and(and(NEVER, NO_SPARE), LITTLE_CACHE));
        CHANGES.put("a cache that grows and shrinks", and(and(and(NEVER, NO_SPARE), LITTLE_CACHE), "isFullWith(blocks) && settings.isCacheLarge()",
                "history.now % 3 == 0 && settings.isCacheLarge()", "if (blocks == 0) {", "if (blocks == 0 && history.now % 3 != 0) {"));
        CHANGES.put("held and forgotten", and(and(ALWAYS, OFTEN), FORGETFUL));
        CHANGES.put("tests in rows", and(and(NEVER, FORGETFUL), TESTS_IN_ROWS));
        CHANGES.put("tests in rows, no spare intervals", and(and(and(NEVER, NO_SPARE), NO_CACHE), TESTS_IN_ROWS));
        CHANGES.put("no tests", and(LAZY, NO_TESTS));
        CHANGES.put("no tests, no cache", and(and(NEVER, NO_TESTS), NO_CACHE));
        CHANGES.put("no tests, no spare intervals", and(and(and(NEVER, NO_TESTS), NO_CACHE), NO_SPARE));
        CHANGES.put("few tasks", and(and(LAZY, NO_TESTS), "MOST_TASKS = 64;", "MOST_TASKS = 3;"));
        CHANGES.put("full masks", and(and(NEVER, FORGETFUL), "return level == 0 ? 1 + (hash >>> 8) % OWN_BITS : Math.max(1, hash >>> 26 - 2 * level);", "return 1;"));
        CHANGES.put("many settings", and(and(and(NEVER, NO_CACHE), NO_SPARE), MANY_SETTINGS));
        CHANGES.put("many settings, many anchors", and(and(and(OFTEN, NO_CACHE), NO_SPARE), MANY_SETTINGS));
        CHANGES.put("many settings, no tests", and(and(and(and(NEVER, NO_TESTS), NO_CACHE), NO_SPARE), MANY_SETTINGS));
        CHANGES.put("little room", and(and(NEVER, NO_CACHE), "< MOST_OF_HISTORY * BLOCK_WORDS;", "< 0;"));
        CHANGES.put("few images", and(NEVER, "FEW_BLOCKS = 600;", "FEW_BLOCKS = 1;", "Math.min(MOST_BLOCKS, 2 * mostOfImages)", "mostOfImages"));
    }

    private static String[] and(String[] one, String... other) {
        String[] both = java.util.Arrays.copyOf(one, one.length + other.length);
        System.arraycopy(other, 0, both, one.length, other.length);
        return both;
    }

    public static void main(String[] args) throws Exception {
        String objects = args.length > 0 ? args[0] : "180";
        String seed = args.length > 1 ? args[1] : "100000";
        List<String> names = args.length > 2 ? List.of(args).subList(2, args.length) : new ArrayList<>(CHANGES.keySet());
        Path place = Files.createTempDirectory("variants");
        List<Thread> threads = new ArrayList<>();
        try {
            for (String name : names) {
                URLClassLoader loader = load(name, Files.createDirectory(place.resolve(name.replace(' ', '-'))));
                Thread thread = new Thread(null, () -> run(name, loader, objects, seed), name, 1 << 26);
                thread.start();
                threads.add(thread);
            }
            for (Thread thread : threads) thread.join();
        } finally {
            try (java.util.stream.Stream<Path> files = Files.walk(place)) {
                for (Path file : files.sorted(java.util.Comparator.reverseOrder()).toList()) Files.delete(file);
            }
        }
    }

    private static void run(String name, URLClassLoader loader, String objects, String seed) {
        try {
            System.out.println(name + " ..");
            loader.loadClass("RandomRuns").getMethod("main", String[].class).invoke(null, (Object) new String[] {objects, seed});
            // Images that are given up at once take too long for many frames of several programs.
            String deep = name.equals("few images") ? "2" : name.contains("forgotten") || name.contains("remembered") || name.contains("no tests") || name.equals("few tasks") ? "30" : "120";
            loader.loadClass("DeepRuns").getMethod("main", String[].class).invoke(null, (Object) new String[] {objects, seed, deep});
            loader.loadClass("PassRuns").getMethod("main", String[].class).invoke(null, (Object) new String[] {objects, seed, deep});
            System.out.println(".. " + name);
        } catch (ReflectiveOperationException e) {
            e.printStackTrace();
            System.exit(1);
        }
    }

    private static URLClassLoader load(String name, Path place) throws IOException {
        String source = Files.readString(Path.of("src/main/java/WindwardScheme.java"));
        String[] changes = CHANGES.get(name);
        for (int i = 0; i < changes.length; i += 2) {
            if (!source.contains(changes[i])) {
                System.out.println(name + ": nothing to change, " + changes[i]);
                System.exit(1);
            }
            source = source.replace(changes[i], changes[i + 1]);
        }
        Path changed = place.resolve("WindwardScheme.java");
        Files.writeString(changed, source);
        StringWriter said = new StringWriter();
        PrintWriter out = new PrintWriter(said);
        int code = ToolProvider.findFirst("javac").orElseThrow().run(out, out, "-d", place.toString(), changed.toString(),
                "src/test/java/RandomRuns.java", "src/test/java/PlainScheme.java", "src/test/java/DeepRuns.java", "src/test/java/PassRuns.java");
        if (code != 0) {
            System.out.println(said);
            System.exit(1);
        }
        return new URLClassLoader(new URL[] {place.toUri().toURL()}, ClassLoader.getPlatformClassLoader());
    }
}
