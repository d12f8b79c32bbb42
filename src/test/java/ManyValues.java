/**
 * Programs that hold as many values at once as the applications of 512 calls can bring together: none of them may end
 * for that, and what waits must be the right values when it is come back to. Each must fit in the room.
 */
public final class ManyValues {
    private static int wrong;

    private static void due(String what, Object got, Object want) {
        if (!String.valueOf(got).equals(String.valueOf(want))) {
            wrong++;
            System.out.println(what + " answered " + got + ", due is " + want);
        }
    }

    /** The argument is the part of the tests that is run; without one all of them are run. */
    public static void main(String[] args) throws IllegalAccessException {
        String part = args.length > 0 ? args[0] : "12345";
        if (part.contains("1")) {
            partsThatWait();
            argumentsThatStay();
            listsThatStay();
            controlThatWaits();
            comeBackTo();
        }
        if (part.contains("2")) {
            settings();
            manyClosures();
            otherPlaces();
            largePrograms();
            comeBackToMany();
        }
        if (part.contains("3")) {
            variablesInAnyOrder();
        }
        if (part.contains("4")) {
            manyVariablesInAnyOrder();
        }
        if (part.contains("5")) {
            orderedAndComeBackTo();
            programsThatAreKept();
        }
        System.out.println(wrong == 0 ? "all values are held" : wrong + " answers are not as due");
        if (wrong != 0) System.exit(1);
    }

    /** Runs the last program for as many calls as there are: it never ends. */
    private static void endless(String what, String... programs) throws IllegalAccessException {
        if (System.getenv("TELL") != null) System.out.println(what + " " + System.nanoTime() / 1000000 % 1000000);
        WindwardScheme x = new WindwardScheme();
        for (int i = 0; i < programs.length - 1; i++) due(what + " " + i, finish(x, programs[i]), 'v');
        long before = x.applications();
        x.begin(lay(x, programs[programs.length - 1]));
        char state = x.state();
        for (int i = 0; i < 505 && state == 'r'; i++) state = run(what, x);
        due(what, state == 'e' ? "e " + x.error() : String.valueOf(state), 'r');
        due(what + " applications", x.applications() - before, 505 * 500);
        due(what + " sound", x.isSound(), true);
        RoomTests.room(what, x, 7200000);
    }

    /** Each call ends within some seconds. */
    private static char run(String what, WindwardScheme x) {
        long begun = System.nanoTime();
        char state = x.run(500);
        double seconds = (System.nanoTime() - begun) / 1e9;
        if (seconds > 60) due(what + " took", seconds + " s", "some seconds");
        return state;
    }

    /** Runs the last program until it comes to this value. */
    private static void comesTo(String what, String value, String... programs) throws IllegalAccessException {
        if (System.getenv("TELL") != null) System.out.println(what + " " + System.nanoTime() / 1000000 % 1000000);
        WindwardScheme x = new WindwardScheme();
        for (int i = 0; i < programs.length - 1; i++) due(what + " " + i, finish(x, programs[i]), 'v');
        x.begin(lay(x, programs[programs.length - 1]));
        char state = x.state();
        for (int i = 0; i < 505 && state == 'r'; i++) state = run(what, x);
        due(what, state == 'e' ? "e " + x.error() : String.valueOf(state), 'v');
        if (state == 'v') due(what + " value", RoomTests.valueOf(x), value);
        RoomTests.room(what, x, 7200000);
    }

    private static String times(int count, String word) {
        StringBuilder text = new StringBuilder();
        for (int i = 0; i < count; i++) text.append(word).append(' ');
        return text.toString();
    }

    /** Symbols from one on, in a form in which %d stands for the number. */
    private static String symbols(int from, int count, String form) {
        StringBuilder text = new StringBuilder();
        for (int i = 0; i < count; i++) text.append(form.replace("%d", String.valueOf(from + i))).append(' ');
        return text.toString();
    }

    private static void partsThatWait() throws IllegalAccessException {
        String[] parts = {"1", "s40", "s31", "(s0 (1 2))", "(s2 () 1)", "(s1 #t 1 2)", "(s1 s31 s31)", "(s5 1)", "(s5 1 s40)",
            "(s4 s31 1)", "s16", "(s1 #f 1)"};
        for (String part : parts) {
            endless("parts " + part, "(s3 s40 1)", "(s3 s30 (s2 (s31) (s10 " + times(20, part) + "(s30 s31))))", "(s30 1)");
        }
        endless("a number of its own", "(s3 s30 (s2 (s31) (s10 " + times(20, "s31") + "(s30 (s10 1 s31)))))", "(s30 1)");
        endless("a variable that is set", "(s3 s30 (s2 (s31) (s4 s31 2) (s10 " + times(20, "s31") + "(s30 s31))))", "(s30 1)");
        endless("a global variable that is set", "(s3 s40 1)",
                "(s3 s30 (s2 () (s4 s40 (s10 s40 1)) (s10 " + times(20, "s40") + "(s30))))", "(s30)");
        endless("calls in calls", "(s3 s30 (s2 () " + times(20, "(s10 1") + "(s30)" + times(20, ")") + "))", "(s30)");
        endless("forms in forms", "(s3 s30 (s2 () " + times(20, "(s5 (s1") + "(s30)" + times(20, "1) 1)") + "))", "(s30)");
    }

    private static void argumentsThatStay() throws IllegalAccessException {
        String parameters = symbols(31, 18, "s%d");
        String[] arguments = {"1", "(s2 () 1)", "s50", "(s1 #t 1 2)", "s31"};
        for (String argument : arguments) {
            endless("arguments " + argument, "(s3 s50 1)",
                    "(s3 s30 (s2 (" + parameters + ") (s10 1 (s30 " + times(18, argument) + "))))",
                    "(s30 " + times(18, "1") + ")");
        }
        endless("handed on", "(s3 s30 (s2 (" + parameters + ") (s10 1 (s30 " + parameters + "))))",
                "(s30 " + times(18, "1") + ")");
        endless("closed over", "(s3 s50 (s0 ()))", "(s3 s30 (s2 (" + parameters + ") (s4 s50 (s16 (s2 () s31) s50)) "
                + "(s30 " + parameters + ")))", "(s30 " + times(18, "1") + ")");
        for (int count = 1; count <= 9; count++) {
            endless(count + " closures", "(s3 s30 (s2 (" + symbols(31, count, "s%d") + ") (s10 1 (s30 "
                    + times(count, "(s2 () 1)") + "))))", "(s30 " + times(count, "1") + ")");
        }
    }

    private static void listsThatStay() throws IllegalAccessException {
        endless("rests", "(s3 s50 (s0 ()))", "(s3 s30 (s2 s31 (s4 s50 (s16 s31 s50)) (s30 " + times(20, "1") + ")))", "(s30 1)");
        endless("lists", "(s3 s50 (s0 ()))", "(s3 s51 (s2 s31 s31))",
                "(s3 s30 (s2 (s31) (s4 s50 (s16 (s51 " + times(20, "s31") + ") s50)) (s30 1)))", "(s30 1)");
        endless("copies", "(s3 s50 (s0 ()))", "(s3 s51 (s0 (" + times(100, "1") + ")))",
                "(s3 s30 (s2 s31 (s4 s50 (s16 s31 s50)) (s24 s30 s31)))", "(s24 s30 s51)");
        endless("applied", "(s3 s51 (s0 (" + times(18, "1") + ")))",
                "(s3 s30 (s2 (" + symbols(31, 18, "s%d") + ") (s10 s31 (s24 s30 s51))))", "(s24 s30 s51)");
        endless("a list of a list", "(s3 s51 (s2 s31 s31))", "(s3 s30 (s2 (s31 s32) (s30 (s51 s32 s32) 1)))", "(s30 1 2)");
        endless("applied to its own", "(s3 s51 (s2 s31 s31))",
                "(s3 s30 (s2 (s31 s32 s33) (s10 1 (s24 s30 (s51 s31 s32 s33)))))", "(s30 1 2 3)");
    }

    private static void controlThatWaits() throws IllegalAccessException {
        endless("winds", "(s3 s30 (s2 () (s23 (s2 () 1) (s2 () (s10 1 (s30))) (s2 () 1))))", "(s30)");
        endless("handlers", "(s3 s30 (s2 () (s28 (s2 (s31) 1) (s2 () (s10 1 (s30))))))", "(s30)");
        endless("prompts", "(s3 s30 (s2 () (s26 (s2 () (s10 1 (s30))) (s2 (s31) 1))))", "(s30)");
        endless("continuations", "(s3 s30 (s2 (s31) (s10 1 1 1 1 1 1 1 1 1 1 1 1 1 (s22 s30))))", "(s30 1)");
        endless("raising", "(s3 s30 (s2 (s31) (s10 1 1 1 (s28 s30 (s2 () (s29 s31))))))", "(s30 1)");
        manyJumps();
    }

    /** Each jump enters many winds again; in the before of the first one it is kept and left, for another one to begin. */
    private static void manyJumps() throws IllegalAccessException {
        WindwardScheme x = new WindwardScheme();
        due("s50", RoomTests.finish(x, "(s3 s50 (s0 ()))"), 'v');
        due("s51", RoomTests.finish(x, "(s3 s51 #f)"), 'v');
        due("s52", RoomTests.finish(x, "(s3 s52 #f)"), 'v');
        due("s53", RoomTests.finish(x, "(s3 s53 #f)"), 'v');
        due("s41", RoomTests.finish(x, "(s3 s41 (s2 () (s1 s52 (s22 (s2 (s31) (s5 (s4 s50 (s16 s31 s50)) (s53 1)))) 0)))"), 'v');
        due("s30", RoomTests.finish(x, "(s3 s30 (s2 (s31) (s1 (s14 s31 20000) (s23 s41 (s2 () (s30 (s10 s31 1))) s41) "
                + "(s22 (s2 (s32) (s4 s51 s32))))))"), 'v');
        x.begin(RoomTests.lay(x, "(s30 0)"));
        char state = 'r';
        for (int i = 0; i < 400 && state == 'r'; i++) state = x.run(500);
        due("winds", state, 'v');
        due("entered", x.entered(), 20000);
        due("s33", RoomTests.finish(x, "(s3 s33 (s2 () (s5 (s22 (s2 (s34) (s5 (s4 s53 s34) (s51 1)))) (s33))))"), 'v');
        due("s52 set", RoomTests.finish(x, "(s4 s52 #t)"), 'v');
        x.begin(RoomTests.lay(x, "(s33)"));
        for (int i = 0; i < 100; i++) due("jump " + i, x.run(500), 'r');
        due("entered again", x.entered(), 20000);
        due("jumps", x.jumps() > 5000, true);
        RoomTests.room("many jumps", x, 7200000);
    }

    /** What waits is come back to, and goes into what comes out. */
    private static void comeBackTo() throws IllegalAccessException {
        comesTo("sums", "450000000",
                "(s3 s30 (s2 (s31) (s1 (s14 s31 30000) (s10 s31 (s30 (s10 s31 1))) 15000)))", "(s30 0)");
        comesTo("sums of waiting variables", "160000", "(s3 s40 1)", "(s3 s41 (s2 (s31 s32 s33 s34) (s10 s31 (s10 s32 (s10 s33 s34)))))",
                "(s3 s30 (s2 (s31) (s4 s40 (s11 5 s40)) (s1 (s14 s31 20000) (s41 s40 (s11 5 s40) 3 (s30 (s10 s31 1))) 0)))",
                "(s30 0)");
        comesTo("sums of ifs and rests", "90000", "(s3 s41 (s2 s31 (s10 (s17 s31) (s10 (s17 (s18 s31)) (s17 (s18 (s18 s31)))))))",
                "(s3 s30 (s2 (s31 s32) (s1 (s14 s31 15000) (s41 (s1 s32 4 2) (s1 s32 2 4) (s30 (s10 s31 1) (s25 s32))) 0)))",
                "(s30 0 #t)");
        comesTo("loops with many parameters", "30000",
                "(s3 s30 (s2 (s31 s32 s33 s34 s35) (s1 (s14 s31 30000) (s30 (s10 s31 1) s33 s34 s35 s32) s31)))",
                "(s30 0 1 2 3 4)");
        comesTo("what was handed on", "(3 4 1 2)",
                "(s3 s41 (s2 s31 s31))",
                "(s3 s30 (s2 (s31 s32 s33 s34 s35) (s1 (s14 s31 30002) (s30 (s10 s31 1) s33 s34 s35 s32) (s41 s32 s33 s34 s35))))",
                "(s30 0 1 2 3 4)");
    }

    // ---- programs that are too long for the text are laid by calls

    private static int place;

    private static int lay(WindwardScheme x, String program) {
        if (program.length() <= 500) return RoomTests.lay(x, program);
        place = 0;
        return layOne(x, program);
    }

    private static char finish(WindwardScheme x, String program) {
        x.begin(lay(x, program));
        return x.run(500);
    }

    private static int layOne(WindwardScheme x, String program) {
        while (program.charAt(place) == ' ') place++;
        if (program.charAt(place) == '(') {
            place++;
            java.util.List<Integer> parts = new java.util.ArrayList<>();
            while (true) {
                while (program.charAt(place) == ' ') place++;
                if (program.charAt(place) == ')') break;
                parts.add(layOne(x, program));
            }
            place++;
            return list(x, parts.stream().mapToInt(i -> i).toArray());
        }
        int start = place;
        while (" ()".indexOf(program.charAt(place)) < 0) place++;
        String atom = program.substring(start, place);
        return atom.equals("#t") ? x.truth(true) : atom.equals("#f") ? x.truth(false)
                : atom.startsWith("s") ? x.symbol(Integer.parseInt(atom.substring(1))) : x.number(Integer.parseInt(atom), 1);
    }

    private static int list(WindwardScheme x, int... parts) {
        int list = x.empty();
        for (int i = parts.length - 1; i >= 0; i--) list = x.pair(parts[i], list);
        return list;
    }

    /** Symbols from one on, each with the next one, the last one with the first, in a form with %d and %e for them. */
    private static String round(int from, int count, String form) {
        StringBuilder text = new StringBuilder();
        for (int i = 0; i < count; i++) {
            text.append(form.replace("%d", String.valueOf(from + i)).replace("%e", String.valueOf(from + (i + 1) % count))).append(' ');
        }
        return text.toString();
    }

    /** Variables that are set ahead of each application, and wait as they were. */
    private static void settings() throws IllegalAccessException {
        endless("a variable further out", "(s3 s30 ((s2 (s31) (s2 () (s4 s31 (s10 s31 1)) (s10 " + times(60, "s31") + "(s30)))) 1))", "(s30)");
        endless("parts with settings", "(s3 s40 1)", "(s3 s30 (s2 (s31) (s10 s31 " + symbols(1, 60, "(s5 (s4 s40 %d) s40)") + "(s30 (s10 s31 1)))))", "(s30 0)");
        String[] programs = new String[27];
        for (int i = 0; i < 24; i++) programs[i] = "(s3 s" + (31 + i) + " " + i + ")";
        programs[24] = "(s3 s57 0)";
        programs[25] = "(s3 s30 (s2 () (s4 s57 s31) " + round(31, 24, "(s4 s%d s%e)") + "(s4 s54 s57) (s10 " + symbols(31, 24, "s%d") + "(s30))))";
        programs[26] = "(s30)";
        endless("global variables go round", programs);
        programs[25] = "(s3 s30 (s2 () " + symbols(31, 24, "(s4 s%d (s2 () 1))") + "(s10 " + symbols(31, 24, "s%d") + "(s30))))";
        endless("global variables set to closures", programs);
        String all = symbols(31, 20, "s%d");
        String turned = "(s4 s57 s31) " + round(31, 20, "(s4 s%d s%e)") + "(s4 s50 s57) (s10 " + all;
        endless("variables go round", "(s3 s57 0)", "(s3 s30 ((s2 (" + all + ") (s2 () " + turned + "(s30)))) " + symbols(1, 20, "%d") + "))", "(s30)");
        endless("variables of each call go round", "(s3 s57 0)", "(s3 s30 (s2 (" + all + ") " + turned + "(s30 " + all + ") s31)))",
                "(s30 " + symbols(1, 20, "%d") + ")");
    }

    private static void manyClosures() throws IllegalAccessException {
        for (int count : new int[] {2, 8, 28}) {
            String all = symbols(30, count, "s%d");
            String made = times(count, "(s2 () s30)");
            endless(count + " variables set to closures", "(s3 s59 0)", "(s3 s59 (s2 (" + all + ") " + symbols(30, count, "(s4 s%d (s2 () 1))") + "(s10 " + all
                    + "(s59 " + all + ") s30)))", "(s59 " + symbols(1, count, "%d") + ")");
            endless(count + " closures wait, others are arguments", "(s3 s59 0)", "(s3 s59 (s2 (" + all + ") (s10 " + made + "(s59 " + made + ") s30)))",
                    "(s59 " + symbols(1, count, "%d") + ")");
            endless(count + " closures wait, others are in a list", "(s3 s59 0)", "(s3 s59 (s2 s30 (s10 " + made + "(s59 " + made + ") s30)))",
                    "(s59 " + symbols(1, count, "%d") + ")");
        }
        String all = symbols(31, 20, "s%d");
        endless("closures go on", "(s3 s30 (s2 (" + all + ") (s10 1 (s30 (s2 () 1) (s2 () 2) " + symbols(31, 18, "s%d") + ") s31)))", "(s30 " + symbols(1, 20, "%d") + ")");
        endless("closures and numbers", "(s3 s30 (s2 (s31) (s10 s31 " + times(40, "(s2 () s31) s31") + "(s30 (s10 s31 1)))))", "(s30 0)");
    }

    /** Values that come to other places, or from others every second time. */
    private static void otherPlaces() throws IllegalAccessException {
        String all = symbols(31, 20, "s%d");
        endless("mixed up", "(s3 s30 (s2 (" + all + ") (s10 1 (s30 (s10 s31 1) s33 s41 s31 s48 s35 s32 s49 s37 s34 s45 s39 s36 s40 s43 s47 s44 s46 s42 s38) s31)))",
                "(s30 " + symbols(1, 20, "%d") + ")");
        String one = symbols(101, 23, "%d");
        String other = symbols(201, 23, "%d");
        String parameters = symbols(30, 24, "s%d");
        endless("two calls by turns", "(s3 s59 0)", "(s3 s59 (s2 (" + parameters + ") (s10 1 (s1 s30 (s59 #f " + one + ") (s59 #t " + other + ")))))", "(s59 #f " + one + ")");
        endless("two lists by turns", "(s3 s59 0)", "(s3 s57 (s0 (#f " + one + ")))", "(s3 s58 (s0 (#t " + other + ")))",
                "(s3 s59 (s2 (" + parameters + ") (s10 1 (s24 s59 (s1 s30 s57 s58)))))", "(s24 s59 s57)");
    }

    /** Fifty programs, each of some 590,000 pairs and parts that come out of macros, are kept. */
    private static void largePrograms() throws IllegalAccessException {
        for (String form : new String[] {"(s10 1 1)", "(s2 (s33) s33)", "(s0 s33)"}) {
            WindwardScheme x = new WindwardScheme();
            int part = lay(x, form);
            int parts = x.empty();
            for (int i = 0; i < 290; i++) parts = x.pair(part, parts);
            int rule = list(x, list(x, x.symbol(8)), x.pair(x.symbol(5), parts));
            x.begin(list(x, x.symbol(6), x.symbol(50), x.empty(), rule));
            due(form, x.run(1), 'v');
            int use = list(x, x.symbol(50));
            int uses = x.empty();
            for (int i = 0; i < 199; i++) uses = x.pair(use, uses);
            int lambda = x.pair(x.symbol(2), x.pair(x.empty(), uses));
            for (int i = 0; i < 40; i++) {
                due(form + " " + i, x.begin(list(x, x.symbol(3), x.symbol(10 + i), lambda)), 'r');
                due(form + " " + i, x.run(1), 'v');
            }
            due(form + " expansions", x.expansions(), 40 * 199);
            RoomTests.room(form, x, 1300000);
        }
    }

    /** What waits with many others is come back to: each call adds up what waited for it. */
    private static void comeBackToMany() throws IllegalAccessException {
        String parameters = symbols(31, 12, "s%d");
        StringBuilder sum = new StringBuilder();
        for (int i = 0; i < 12; i++) sum.append("(s10 ").append(i % 2 == 0 ? "s" + (31 + i) : "(s" + (31 + i) + ")").append(' ');
        String added = "(s3 s58 (s2 (" + parameters + "s43) " + sum + "s43" + ")".repeat(12) + "))";
        String waiting = times(6, "s31 (s2 () s31)");
        // n calls add up 12 times 0 to n - 1.
        comesTo("numbers and closures", String.valueOf(12L * 2000 * 1999 / 2), added,
                "(s3 s30 (s2 (s31) (s1 (s14 s31 2000) (s58 " + waiting + "(s30 (s10 s31 1))) 0)))", "(s30 0)");
        String turned = symbols(32, 11, "s%d") + "s31";
        comesTo("arguments that go round", String.valueOf(78L * 3000), "(s3 s58 (s2 (" + parameters + "s43) " + sum.toString().replaceAll("\\((s\\d+)\\)", "$1") + "s43" + ")".repeat(12) + "))",
                "(s3 s30 (s2 (s59 " + parameters + ") (s1 (s14 s59 3000) (s58 " + parameters + "(s30 (s10 s59 1) " + turned + ")) 0)))",
                "(s30 0 " + symbols(1, 12, "%d") + ")");
    }

    // ---- variables that change places, in an order that is another one at each application

    private static String order(int seed, int from, int count) {
        java.util.List<String> names = new java.util.ArrayList<>();
        for (int i = 0; i < count; i++) names.add("s" + (from + i));
        java.util.Collections.shuffle(names, new java.util.Random(seed));
        return String.join(" ", names);
    }

    /** Settings by which each variable gets the value of another one, by s58. */
    private static String orderBySet(int seed, int from, int count) {
        String[] names = order(seed, from, count).split(" ");
        StringBuilder settings = new StringBuilder();
        boolean[] done = new boolean[count];
        for (int i = 0; i < count; i++) {
            if (done[i]) continue;
            settings.append("(s4 s58 s").append(from + i).append(") ");
            int at = i;
            while (true) {
                done[at] = true;
                int next = Integer.parseInt(names[at].substring(1)) - from;
                settings.append("(s4 s").append(from + at).append(next == i ? " s58) " : " s" + (from + next) + ") ");
                if (next == i) break;
                at = next;
            }
        }
        return settings.toString();
    }

    private static String flags(int count) {
        StringBuilder text = new StringBuilder();
        for (int i = 0; i < count; i++) text.append(i * 7 % 3 == 0 ? "#f " : (i + 1) + " ");
        return text.toString();
    }

    /** A macro that gives another one, s51, so many pairs of names of its own: four for each part of its first list. */
    private static final String NAMES = "(s6 s50 () ((s8 () (s31 s7)) (s51 s31 s7)) ((s8 (s32 s33 s7) (s31 s7)) "
            + "(s50 (s33 s7) ((s34 s35) (s36 s37) (s38 s39) (s40 s41) s31 s7))))";

    private static void variablesInAnyOrder() throws IllegalAccessException {
        String all = symbols(30, 28, "s%d");
        endless("variables in any order by set", "(s3 s58 0)", "(s3 s59 (s2 (" + all + ") (s1 s30 (s5 " + orderBySet(1, 30, 28) + ") (s5 "
                + orderBySet(2, 30, 28) + ")) (s5 (s59 " + all + ") s30)))", "(s59 " + flags(28) + ")");
        String[] globals = new String[31];
        for (int i = 0; i < 28; i++) globals[i] = "(s3 s" + (30 + i) + " " + flags(28).split(" ")[i] + ")";
        globals[28] = "(s3 s58 0)";
        globals[29] = "(s3 s59 (s2 () (s1 s30 (s5 " + orderBySet(1, 30, 28) + ") (s5 " + orderBySet(2, 30, 28) + ")) (s10 " + all + " (s59))))";
        globals[30] = "(s59)";
        endless("global variables in any order by set", globals);
        endless("variables of several levels", "(s3 s59 0)", "(s4 s59 ((s2 (s31) ((s2 (s32) ((s2 (s33) ((s2 (s34) (s2 () (s4 s31 (s2 () 1)) (s4 s32 (s2 () 2)) "
                + "(s4 s33 (s2 () 3)) (s4 s34 (s2 () 4)) (s10 s31 s32 s33 s34 (s59)))) 4)) 3)) 2)) 1))", "(s59)");
        StringBuilder open = new StringBuilder();
        StringBuilder close = new StringBuilder();
        for (int i = 0; i < 20; i++) {
            open.append("((s2 (s").append(30 + i).append(") ");
            close.append(") ").append(i).append(")");
        }
        endless("variables of 20 levels", "(s3 s59 0)", "(s4 s59 " + open + "(s2 () " + symbols(30, 20, "(s4 s%d (s2 () s%d))") + "(s10 "
                + symbols(30, 20, "s%d") + " (s59)))" + close + ")", "(s59)");
        settingsOnTheWayBack();
    }

    private static void manyVariablesInAnyOrder() throws IllegalAccessException {
        for (int parts : new int[] {10, 50}) {
            endless(8 * parts + " variables in any order by call", NAMES, "(s6 s51 () ((s8 (s31 s32) (s33 s34) s7) (s3 s59 (s2 (s31 s33 s7 s32 s34 s7) "
                    + "(s5 (s1 s31 (s59 s32 s34 s7 s31 s33 s7) (s59 s33 s7 s31 s32 s34 s7)) s31)))))", "(s50 (" + symbols(1, parts, "%d") + ") ())",
                    "(s59 " + flags(8 * parts) + ")");
        }
        endless("80 variables in any order by set", NAMES, "(s6 s52 () ((s8 s30) (s5)) ((s8 s30 s31) (s4 s31 s30)) "
                + "((s8 s30 s31 s32 s33 s7) (s5 (s4 s31 s32) (s52 s30 s32 s33 s7))))",
                "(s6 s51 () ((s8 (s31 s32) (s33 s34) s7) (s3 s59 (s2 (s31 s33 s7 s32 s34 s7) (s5 (s4 s31 s32) (s4 s33 s34) s7 "
                + "(s1 s31 (s59 s32 s34 s7 s31 s33 s7) (s59 s33 s7 s31 s32 s34 s7)) s31)))))", "(s50 (" + symbols(1, 10, "%d") + ") ())",
                "(s59 " + flags(80) + ")");
        endless("continuations of lists", "(s3 s51 0)", "(s3 s53 (s2 s31 s31))", "(s3 s54 (s0 ()))", "(s3 s52 0)", "(s5 (s4 s54 (s16 (s53 "
                + symbols(1, 30, "(s5 (s25 1) %d)") + " (s22 (s2 (s32) (s5 (s4 s51 s32) 0)))) s54)) (s4 s52 (s10 s52 1)) (s51 s52))");
        String large = "(s6 s52 () ((s8 s30) s30) ((s8 s30 s31 s7) (s53 " + times(15, "s31 s7") + ")))";
        endless("a list of 900 parts", "(s3 s53 (s2 s31 s31))", large, "(s3 s54 (s52 0 " + symbols(1, 60, "%d") + "))",
                "(s3 s55 (s2 (s30 . s31) (s10 1 (s24 s55 (s16 (s10 s30 1) s31)))))", "(s24 s55 s54)");
    }

    /** A thousand frames are come back to again and again, each sets variables, while many values wait further out. */
    private static void settingsOnTheWayBack() throws IllegalAccessException {
        WindwardScheme x = new WindwardScheme();
        String[] programs = {"(s3 s51 0)", "(s3 s40 0)", "(s3 s41 0)", "(s3 s53 (s2 s31 s31))",
            "(s3 s50 (s2 (s31 s32 s33) (s1 (s14 s31 1000) (s5 (s50 (s10 s31 1) s32 s33) (s4 s32 s31) (s4 s40 s32)) (s22 (s2 (s32) (s4 s51 s32))))))"};
        for (String program : programs) due(program, finish(x, program), 'v');
        x.begin(lay(x, "(s53 " + symbols(1, 30, "%d") + " (s5 (s50 0 1 2) (s4 s41 (s10 s41 1)) (s51 s41)))"));
        for (int i = 0; i < 40; i++) due("settings on the way back " + i, x.run(500), 'r');
        due("jumps", x.jumps() > 7000, true);
        RoomTests.room("settings on the way back", x, 5000000);
    }

    /** What comes out is what comes out of PlainScheme. */
    private static void sameAsPlain(String what, String... programs) throws IllegalAccessException {
        PlainScheme plain = new PlainScheme();
        char state = 'v';
        for (String program : programs) {
            place = 0;
            plain.begin(layOne(plain, program));
            for (int i = 0; i < 1000 && plain.state() == 'r'; i++) state = plain.run(500);
        }
        due(what + " state", state, 'v');
        int length = plain.writeValue();
        StringBuilder value = new StringBuilder();
        for (int i = 0; i < length; i++) value.append(plain.charAt(i));
        comesTo(what, value.toString(), programs);
    }

    private static void orderedAndComeBackTo() throws IllegalAccessException {
        String all = symbols(30, 28, "s%d");
        sameAsPlain("ordered by call and come back to", "(s3 s59 (s2 (s9 " + all + ") (s1 (s14 s9 20000) (s10 (s1 s31 1 0) (s1 s30 (s59 (s10 s9 1) "
                + order(1, 30, 28) + ") (s59 (s10 s9 1) " + order(2, 30, 28) + "))) 0)))", "(s59 0 " + flags(28) + ")");
        sameAsPlain("ordered by set and come back to", "(s3 s58 0)", "(s3 s59 (s2 (s9 " + all + ") (s1 (s14 s9 20000) (s10 (s1 s31 1 0) (s5 (s1 s30 (s5 "
                + orderBySet(1, 30, 28) + ") (s5 " + orderBySet(2, 30, 28) + ")) (s10 (s1 s31 1 0) (s59 (s10 s9 1) " + all + ")))) 0)))",
                "(s59 0 " + flags(28) + ")");
        String[] globals = new String[30];
        for (int i = 0; i < 26; i++) globals[i] = "(s3 s" + (30 + i) + " " + flags(26).split(" ")[i] + ")";
        globals[26] = "(s3 s58 0)";
        globals[27] = "(s3 s57 (s2 (s41 . s42) s41))";
        globals[28] = "(s3 s59 (s2 (s9) (s1 (s14 s9 20000) (s5 (s1 s30 (s5 " + orderBySet(1, 30, 26) + ") (s5 " + orderBySet(2, 30, 26)
                + ")) (s10 (s1 s31 1 0) (s57 (s59 (s10 s9 1)) " + symbols(30, 26, "s%d") + "))) 0)))";
        globals[29] = "(s59 0)";
        sameAsPlain("global variables ordered by set and come back to", globals);
        sameAsPlain("200 variables ordered and come back to", NAMES, "(s6 s51 () ((s8 (s30 s32) (s33 s34) s7) (s3 s59 (s2 (s30 s32 s33 s7 s34 s7) "
                + "(s1 (s14 s30 5000) (s10 (s1 s32 1 0) (s1 s32 (s59 (s10 s30 1) s34 s7 s32 s33 s7) (s59 (s10 s30 1) s33 s7 s32 s34 s7))) 0)))))",
                "(s50 (" + symbols(1, 25, "%d") + ") ())", "(s59 0 " + flags(199) + ")");
        sameAsPlain("2100 values come back to", "(s3 s31 (s2 (s41 . s42) s41))", "(s6 s40 () ((s8 s41 s9) (s31 s9 " + times(50, "s41") + ")))",
                "(s3 s30 (s2 (s41) (s1 (s14 s41 500) " + "(s40 s41 ".repeat(42) + "(s10 1 (s30 (s10 s41 1)))" + ")".repeat(42) + " 0)))", "(s30 0)");
    }

    private static int layOne(PlainScheme x, String program) {
        while (program.charAt(place) == ' ') place++;
        if (program.charAt(place) == '(') {
            place++;
            java.util.List<Integer> parts = new java.util.ArrayList<>();
            int end = -1;
            while (true) {
                while (program.charAt(place) == ' ') place++;
                if (program.charAt(place) == ')') break;
                boolean isDot = program.startsWith(". ", place);
                place += isDot ? 2 : 0;
                if (isDot) end = layOne(x, program);
                else parts.add(layOne(x, program));
            }
            place++;
            int list = end < 0 ? x.empty() : end;
            for (int i = parts.size() - 1; i >= 0; i--) list = x.pair(parts.get(i), list);
            return list;
        }
        int start = place;
        while (" ()".indexOf(program.charAt(place)) < 0) place++;
        String atom = program.substring(start, place);
        return atom.equals("#t") ? x.truth(true) : atom.equals("#f") ? x.truth(false)
                : atom.startsWith("s") ? x.symbol(Integer.parseInt(atom.substring(1))) : x.number(Integer.parseInt(atom), 1);
    }

    // ---- programs of which procedures, continuations, and quoted data are kept, each of its own

    private static void programsThatAreKept() throws IllegalAccessException {
        String numbers = symbols(1, 60, "%d");
        String turns = "(" + times(60, "s29") + ") s30 (" + numbers;
        String uses = "(s50 " + turns + ")) (s50 " + turns + " 77)) (s50 " + turns + " 78))";
        String code = "(s6 s50 () ((s8 (s29) s30 (s31 s32 s7)) s30) ((s8 (s29 s33 s7) s30 (s31 s32 s7)) "
                + "(s5 (s1 #f (s9 " + times(20, "s31 s32 s7 s30") + ")) (s50 (s33 s7) s30 (s32 s7 s31)))))";
        keep("procedures", "((s17 %d))", code, "(s6 s51 () ((s8 s30) (s4 s58 (s16 (s2 () " + uses + ") s58))))");
        keep("continuations", "((s17 %d) 2)", code,
                "(s6 s51 () ((s8 s30) ((s2 () (s22 (s2 (s31) (s4 s58 (s16 s31 s58)))) (s1 #f (s5 " + uses + ") s30)))))");
        String quotes = "(s6 s50 () ((s8 (s29) s30 (s31 s32 s7)) 5) ((s8 (s29 s33 s7) s30 (s31 s32 s7)) "
                + "(s5 (s4 s58 (s16 (s0 (s30 " + times(20, "s31 s32 s7 s40") + ")) s58)) (s50 (s33 s7) s30 (s32 s7 s31)))))";
        keep("quoted data", "(s17 (s17 %d))", quotes, "(s6 s51 () ((s8 s30) (s5 (s50 " + turns + ")) (s50 " + turns + ")))))");
    }

    /** Begins 40 programs, each with a number of its own, which must be found in what they kept in s58. */
    private static void keep(String what, String probe, String... macros) throws IllegalAccessException {
        WindwardScheme x = new WindwardScheme();
        due(what, finish(x, "(s3 s58 (s0 ()))"), 'v');
        due(what, finish(x, "(s3 s9 (s2 s31 1))"), 'v');
        for (String macro : macros) due(what, finish(x, macro), 'v');
        for (int i = 0; i < 40; i++) due(what + " " + i, finish(x, "(s51 " + (1000 + i) + ")"), 'v');
        due(what + " expansions", x.expansions() > 40 * 120, true);
        due(what, finish(x, "(s3 s56 (s2 (s31 s32) (s1 (s14 s31 1) s32 (s56 (s11 s31 1) (s18 s32)))))"), 'v');
        int each = what.equals("quoted data") ? 118 : 1;
        for (int i = 0; i < 40; i += 3) {
            x.begin(lay(x, "(s3 s57 (s56 " + each * i + " s58))"));
            for (int j = 0; j < 40 && x.state() == 'r'; j++) x.run(500);
            due(what, finish(x, probe.replace("%d", "s57")), 'v');
            due(what + " value", RoomTests.valueOf(x), 1039 - i);
        }
        RoomTests.room(what + " of programs", x, 4200000);
    }
}
