import java.io.IOException;
import java.io.PrintWriter;
import java.io.StringWriter;
import java.net.URL;
import java.net.URLClassLoader;
import java.nio.file.Files;
import java.nio.file.Path;
import java.util.ArrayList;
import java.util.LinkedHashMap;
import java.util.List;
import java.util.Map;
import java.util.spi.ToolProvider;

/**
 * RandomRuns and DeepRuns on copies of the class in which what is rare is common: no value is held that can be evaluated again, little
 * is kept, images are given up at once, cells are collected all the time. Every answer must still be the same. Run from
 * the project's root. Arguments: how many objects for each copy, the first seed, the copies (if not all of them).
 */
public final class Variants {
    private static final String[] LAZY = {"MOST_PLAIN = 3;", "MOST_PLAIN = -1;"};
    private static final String[] LAZY_VERSIONS = and(LAZY, "MOST_SETTINGS = 2;", "MOST_SETTINGS = 0;", "MOST_AT_END = 12;", "MOST_AT_END = 0;");
    private static final String[] OFTEN_HELD = {"Math.max(LEAST_LENGTH, countOf(environment))", "1", "MOST_GLOBAL = 64;", "MOST_GLOBAL = 2;"};
    private static final String[] NEVER_HELD = {"Math.max(LEAST_LENGTH, countOf(environment))", "1000000", "MOST_GLOBAL = 64;", "MOST_GLOBAL = 1000000;"};

    private static final Map<String, String[]> CHANGES = new LinkedHashMap<>();

    static {
        CHANGES.put("nothing is held", LAZY);
        CHANGES.put("always collected", and(LAZY, "if (made >= due)", "if (made >= 100)", "heap.freeCells >= needed)",
                "heap.freeCells >= needed && false)", "if (heap.freeCells < STEP) {", "if (true) {"));
        CHANGES.put("little is known", and(LAZY, " KNOWN_SHIFT = 18;", " KNOWN_SHIFT = 26;", "FEW_KNOWN_SHIFT = 24;", "FEW_KNOWN_SHIFT = 26;", "WAYS = 4;", "WAYS = 2;"));
        CHANGES.put("few tasks", and(LAZY_VERSIONS, "MOST_TASKS = 1000;", "MOST_TASKS = 2;"));

        CHANGES.put("all is versions", LAZY_VERSIONS);
        CHANGES.put("often held", and(LAZY_VERSIONS, OFTEN_HELD));
        CHANGES.put("never held", and(LAZY_VERSIONS, NEVER_HELD));
        CHANGES.put("plain and often held", OFTEN_HELD);
        CHANGES.put("groups at once", and(LAZY_VERSIONS, "FEW_TOGETHER = 2;", "FEW_TOGETHER = 1;"));
        CHANGES.put("groups often held", and(and(LAZY_VERSIONS, OFTEN_HELD), "FEW_TOGETHER = 2;", "FEW_TOGETHER = 1;", "MOST_LOOKED = 256;", "MOST_LOOKED = 1;"));
        CHANGES.put("groups that stay", and(and(LAZY_VERSIONS, NEVER_HELD), "FEW_TOGETHER = 2;", "FEW_TOGETHER = 1;", "if (made >= due)", "if (made >= 500)"));
        CHANGES.put("small stamps", and(LAZY_VERSIONS, "MOST_STAMPS = 1500000000;", "MOST_STAMPS = 300;", "BUCKET_BITS = 12;", "BUCKET_BITS = 1;",
                "stamps++;", "stamps += 7;"));
        CHANGES.put("few images", and(LAZY, "FEW_PAGES = 64;", "FEW_PAGES = 8;", "Math.min(MAX_PAGES, 2 * mostPages)", "mostPages"));
        CHANGES.put("short plain rows", new String[] {"MOST_PLAIN = 3;", "MOST_PLAIN = 1;", "MOST_CELLS = 2;", "MOST_CELLS = 0;", "MOST_SETTINGS = 2;", "MOST_SETTINGS = 1;"});
    }

    private static String[] and(String[] one, String... other) {
        String[] both = java.util.Arrays.copyOf(one, one.length + other.length);
        System.arraycopy(other, 0, both, one.length, other.length);
        return both;
    }

    public static void main(String[] args) throws Exception {
        String objects = args.length > 0 ? args[0] : "180";
        String seed = args.length > 1 ? args[1] : "100000";
        List<String> names = args.length > 2 ? List.of(args).subList(2, args.length) : new ArrayList<>(CHANGES.keySet());
        Path place = Files.createTempDirectory("variants");
        List<Thread> threads = new ArrayList<>();
        try {
            for (String name : names) {
                URLClassLoader loader = load(name, Files.createDirectory(place.resolve(name.replace(' ', '-'))));
                Thread thread = new Thread(null, () -> run(name, loader, objects, seed), name, 1 << 26);
                thread.start();
                threads.add(thread);
            }
            for (Thread thread : threads) thread.join();
        } finally {
            try (java.util.stream.Stream<Path> files = Files.walk(place)) {
                for (Path file : files.sorted(java.util.Comparator.reverseOrder()).toList()) Files.delete(file);
            }
        }
    }

    private static void run(String name, URLClassLoader loader, String objects, String seed) {
        try {
            System.out.println(name + " ..");
            loader.loadClass("RandomRuns").getMethod("main", String[].class).invoke(null, (Object) new String[] {objects, seed});
            // Images that are given up at once take too long for many frames of several programs.
            String deep = name.equals("few images") ? "2" : name.equals("always collected") ? "40" : "120";
            loader.loadClass("DeepRuns").getMethod("main", String[].class).invoke(null, (Object) new String[] {objects, seed, deep});
        } catch (ReflectiveOperationException e) {
            e.printStackTrace();
            System.exit(1);
        }
    }

    private static URLClassLoader load(String name, Path place) throws IOException {
        String source = Files.readString(Path.of("src/main/java/WindwardScheme.java"));
        String[] changes = CHANGES.get(name);
        for (int i = 0; i < changes.length; i += 2) {
            if (!source.contains(changes[i])) {
                System.out.println(name + ": nothing to change, " + changes[i]);
                System.exit(1);
            }
            source = source.replace(changes[i], changes[i + 1]);
        }
        Path changed = place.resolve("WindwardScheme.java");
        Files.writeString(changed, source);
        StringWriter said = new StringWriter();
        PrintWriter out = new PrintWriter(said);
        int code = ToolProvider.findFirst("javac").orElseThrow().run(out, out, "-d", place.toString(), changed.toString(),
                "src/test/java/RandomRuns.java", "src/test/java/PlainScheme.java", "src/test/java/DeepRuns.java");
        if (code != 0) {
            System.out.println(said);
            System.exit(1);
        }
        return new URLClassLoader(new URL[] {place.toUri().toURL()}, ClassLoader.getPlatformClassLoader());
    }
}
