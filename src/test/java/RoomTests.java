import java.lang.reflect.Array;
import java.lang.reflect.Field;
import java.lang.reflect.Modifier;
import java.util.ArrayDeque;
import java.util.Collections;
import java.util.IdentityHashMap;
import java.util.Set;

/**
 * Long runs of 512 calls: the answers stay right, and all that the object holds (it makes next to nothing that it does not
 * hold) fits in the room of 600,000 objects with 7.3 million fields and elements.
 */
public final class RoomTests {
    private static int wrong;

    private static void due(String what, Object got, Object want) {
        if (!String.valueOf(got).equals(String.valueOf(want))) {
            wrong++;
            System.out.println(what + " answered " + got + ", due is " + want);
        }
    }

    public static void main(String[] args) throws IllegalAccessException {
        endlessLoop();
        deepRecursion();
        longList();
        deepFirstParts();
        deepWinds();
        deepHandlers();
        manyContinuations();
        largeExpansions();
        returning();
        manyObjects();
        marksThatWait();
        System.out.println(wrong == 0 ? "all is as due and fits in the room" : wrong + " answers are not as due");
        if (wrong != 0) System.exit(1);
    }

    /** Lays a program in one call of read, without counting the calls of type. */
    static int lay(WindwardScheme x, String program) {
        x.clear();
        for (int i = 0; i < program.length(); i++) x.type(program.charAt(i));
        return x.read();
    }

    static char finish(WindwardScheme x, String program) {
        x.begin(lay(x, program));
        return x.run(500);
    }

    static String valueOf(WindwardScheme x) {
        int length = x.writeValue();
        StringBuilder text = new StringBuilder();
        for (int i = 0; i < length; i++) text.append(x.charAt(i));
        return text.toString();
    }

    /** Runs for as many calls as there are; the state behind them. */
    private static char runOn(WindwardScheme x, int calls) {
        char state = x.state();
        for (int i = 0; i < calls && state == 'r'; i++) state = x.run(500);
        return state;
    }

    /** Looks whether the object is within the room, and within the elements that this kind of run should need. */
    static void room(String what, WindwardScheme x, long most) throws IllegalAccessException {
        Set<Object> seen = Collections.newSetFromMap(new IdentityHashMap<>());
        long elements = count(x, seen);
        System.out.println(what + ": " + seen.size() + " objects, " + elements + " fields and elements");
        due(what + " objects fit", seen.size() < 600000, true);
        due(what + " elements fit", elements < 7300000, true);
        due(what + " elements fit in " + most, elements <= most, true);
    }

    private static long count(WindwardScheme x, Set<Object> seen) throws IllegalAccessException {
        ArrayDeque<Object> open = new ArrayDeque<>();
        open.add(x);
        seen.add(x);
        long elements = 0;
        while (!open.isEmpty()) {
            Object object = open.remove();
            if (object.getClass().isArray()) {
                elements += Array.getLength(object);
                if (object instanceof Object[] row) for (Object o : row) add(o, seen, open);
                continue;
            }
            for (Field f : object.getClass().getDeclaredFields()) {
                if (Modifier.isStatic(f.getModifiers())) continue;
                elements++;
                f.setAccessible(true);
                if (!f.getType().isPrimitive()) add(f.get(object), seen, open);
            }
        }
        return elements;
    }

    /** How many fields and elements an object holds. */
    static long elements(WindwardScheme x) throws IllegalAccessException {
        Set<Object> seen = Collections.newSetFromMap(new IdentityHashMap<>());
        return count(x, seen);
    }

    private static void add(Object object, Set<Object> seen, ArrayDeque<Object> open) {
        if (object != null && seen.add(object)) open.add(object);
    }

    private static void endlessLoop() throws IllegalAccessException {
        WindwardScheme x = new WindwardScheme();
        finish(x, "(s3 s30 (s2 (s41 . s42) (s30 (s10 s41 1) (s16 s41 s41))))");
        x.begin(lay(x, "(s30 0)"));
        due("loop", runOn(x, 500), 'r');
        due("loop applications", x.applications(), 250000);
        room("endless loop", x, 2600000);
        x.begin(lay(x, "(s10 1/2 1/3)"));
        x.run(1);
        due("behind the loop", valueOf(x), "5/6");
    }

    private static void deepRecursion() throws IllegalAccessException {
        WindwardScheme x = new WindwardScheme();
        finish(x, "(s3 s30 (s2 (s41) (s1 (s14 s41 50000) (s10 1 (s30 (s10 s41 1))) 0)))");
        x.begin(lay(x, "(s30 0)"));
        due("recursion", runOn(x, 500), 'v');
        due("recursion value", valueOf(x), "50000");
        room("deep recursion", x, 2100000);
        x = new WindwardScheme();
        finish(x, "(s3 s30 (s2 (s41) (s10 1 (s30 s41))))");
        x.begin(lay(x, "(s30 0)"));
        due("endless recursion", runOn(x, 500), 'r');
        due("endless recursion applications", x.applications(), 250000);
        room("endless recursion", x, 5000000);
    }

    private static void longList() throws IllegalAccessException {
        WindwardScheme x = new WindwardScheme();
        finish(x, "(s3 s30 (s2 (s41 s42) (s1 (s14 s41 60000) (s30 (s10 s41 1) (s16 s41 s42)) s42)))");
        x.begin(lay(x, "(s3 s31 (s30 0 (s0 ())))"));
        due("list", runOn(x, 500), 'v');
        due("list first", finish(x, "(s17 (s18 s31))"), 'v');
        due("list second part", valueOf(x), "59998");
        try {
            x.writeGlobal(31);
            due("a long list", "written", "too long");
        } catch (UnsupportedOperationException e) {
            due("text behind it", x.clear(), 5);
        }
        due("apply", finish(x, "(s24 (s2 (s41 . s42) (s17 s42)) s31)"), 'v');
        due("applied", valueOf(x), "59998");
        room("long list", x, 2500000);
    }

    private static void deepFirstParts() throws IllegalAccessException {
        WindwardScheme x = new WindwardScheme();
        finish(x, "(s3 s30 (s2 (s41) (s30 (s16 s41 (s16 1 2)))))");
        x.begin(lay(x, "(s30 0)"));
        due("deep parts", runOn(x, 500), 'r');
        room("deep first parts", x, 2700000);
    }

    private static void deepWinds() throws IllegalAccessException {
        WindwardScheme x = new WindwardScheme();
        finish(x, "(s3 s33 (s2 () 1))");
        finish(x, "(s3 s30 (s2 (s41) (s1 (s14 s41 10000) (s23 s33 (s2 () (s30 (s10 s41 1))) s33) (s22 (s2 (s46) "
                + "(s5 (s4 s31 s46) 7))))))");
        finish(x, "(s3 s31 0)");
        x.begin(lay(x, "(s30 0)"));
        due("winds", runOn(x, 500), 'v');
        due("entered", x.entered(), 10000);
        due("left", x.left(), 10000);
        x.begin(lay(x, "(s31 8)"));
        due("winds again", runOn(x, 100), 'v');
        due("winds again value", valueOf(x), "8");
        due("entered again", x.entered(), 20000);
        due("left again", x.left(), 20000);
        x.begin(lay(x, "(s26 (s2 () (s31 (s27 9))) (s2 (s41) s41))"));
        due("abort ahead of the jump", runOn(x, 100), 'v');
        due("sound", x.isSound(), true);
        room("deep winds", x, 1000000);
    }

    private static void deepHandlers() throws IllegalAccessException {
        WindwardScheme x = new WindwardScheme();
        finish(x, "(s3 s33 (s2 (s41) (s10 1 (s29 s41))))");
        finish(x, "(s3 s30 (s2 (s41) (s1 (s14 s41 20000) (s28 s33 (s2 () (s30 (s10 s41 1)))) (s29 0))))");
        x.begin(lay(x, "(s28 (s2 (s41) 5) (s2 () (s30 0)))"));
        due("handlers", runOn(x, 450), 'v');
        due("handlers value", valueOf(x), "20005");
        room("deep handlers", x, 1700000);
    }

    private static void manyContinuations() throws IllegalAccessException {
        WindwardScheme x = new WindwardScheme();
        finish(x, "(s3 s31 (s0 ()))");
        finish(x, "(s3 s30 (s2 (s41) (s5 (s4 s31 (s16 (s22 (s2 (s46) s46)) s31)) (s30 (s10 s41 1)))))");
        x.begin(lay(x, "(s30 0)"));
        due("continuations", runOn(x, 500), 'r');
        room("many continuations", x, 2600000);
    }

    private static void largeExpansions() throws IllegalAccessException {
        WindwardScheme x = new WindwardScheme();
        StringBuilder part = new StringBuilder();
        for (int i = 0; i < 12; i++) part.append("s41 s42 ");
        finish(x, "(s6 s50 () ((s8 s30 s31) (s5 (s0 (" + part + " s41 s41 s31 s31 s31 s31 s31 s31)) s30)))");
        StringBuilder datum = new StringBuilder("(");
        for (int i = 0; i < 40; i++) datum.append("1 ");
        datum.append(")");
        int item = lay(x, datum.toString());
        int form = lay(x, "7");
        int end = x.empty();
        for (int i = 0; i < 15; i++) form = x.pair(x.symbol(50), x.pair(form, x.pair(item, end)));
        for (int i = 0; i < 200; i++) {
            due("expansion " + i, x.begin(form), 'r');
            due("expansion run " + i, x.run(1), 'v');
        }
        due("expansions", x.expansions(), 200 * 15);
        room("large expansions", x, 450000);
    }

    /** Frames that are come back to without any application in between. */
    private static void returning() throws IllegalAccessException {
        WindwardScheme x = new WindwardScheme();
        finish(x, "(s3 s30 (s2 (s41) (s5 (s1 (s14 s41 40000) (s30 (s10 s41 1)) 0) (s5 1 2 3) (s1 #t 4 5))))");
        x.begin(lay(x, "(s30 0)"));
        due("returning", runOn(x, 400), 'v');
        due("returning value", valueOf(x), "4");
        room("returning", x, 1400000);
    }

    /** A datum with marks is handed on while cells are used again, and is quoted at last. */
    private static void marksThatWait() throws IllegalAccessException {
        WindwardScheme x = new WindwardScheme();
        finish(x, "(s6 s50 () ((s8 () s31) (s0 s31)) ((s8 (s30 s32 s7) s31) (s5 (s0 (s30 s32 s7 s40 (s41 s30) s32 s7)) "
                + "(s50 (s32 s7) s31))))");
        finish(x, "(s6 s51 () ((s8 s30) (s50 s30 (s40 (s41 (s42)) 1 . s43))))");
        finish(x, "(s6 s52 () ((s8 s30) (s5 (s51 s30) (s51 s30) (s51 s30) (s51 s30))))");
        String items = "1 2 3 4 5 6 7 8 9 10 11 12 13 14 15 16 17 18 19 20 21 22 23 24 25 26 27 28 29 30 31 32 33 34 35 36 37 38 39 40";
        for (int i = 0; i < 20; i++) {
            due("marks", finish(x, "(s52 (" + items + "))"), 'v');
            due("marks off", valueOf(x), "(s40 (s41 (s42)) 1 . s43)");
        }
        due("marks expansions", x.expansions(), 20 * (1 + 4 * (1 + 41)));
        room("marks that wait", x, 400000);
    }

    private static void manyObjects() throws IllegalAccessException {
        WindwardScheme x = new WindwardScheme();
        for (int i = 0; i < 500; i++) x.number(i, 7);
        room("laid data alone", x, 130000);
    }
}
