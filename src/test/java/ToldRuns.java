import java.util.ArrayList;
import java.util.HashMap;
import java.util.List;
import java.util.Map;

/**
 * The runs that issues 32 to 41 told, with other numbers: endless runs that set, hold, test and look at very much, each for
 * as many calls as there are. None may end, change a laid datum, or take long. Arguments: the issues (if not all of them),
 * and "all" for those that take minutes, too.
 */
public final class ToldRuns {
    private static final double MOST_SECONDS = 60;
    private static final int CALLS = 512;
    private static boolean isAll;
    private static int wrong;

    private static synchronized void due(String what, Object got, Object want) {
        if (!String.valueOf(got).equals(String.valueOf(want))) {
            wrong++;
            System.out.println(what + " answered " + got + ", due is " + want);
        }
    }

    private interface Part {
        void run() throws Exception;
    }

    public static void main(String[] args) throws Exception {
        Map<String, Part> parts = new HashMap<>();
        parts.put("32", ToldRuns::laidDataStay);
        parts.put("33", ToldRuns::proceduresInTurns);
        parts.put("34", ToldRuns::settingsAheadOfCalls);
        parts.put("35", ToldRuns::variablesOfManyAround);
        parts.put("36", ToldRuns::behindLargePrograms);
        parts.put("37", ToldRuns::behindReading);
        parts.put("38", ToldRuns::expandedBehindMuch);
        parts.put("39", ToldRuns::manyTests);
        parts.put("40", ToldRuns::enteredAgain);
        parts.put("41", ToldRuns::comeBackToOften);
        List<Thread> threads = new ArrayList<>();
        List<String> chosen = new ArrayList<>(List.of(args));
        isAll = chosen.remove("all");
        for (String part : chosen.isEmpty() ? new ArrayList<>(parts.keySet()) : chosen) {
            threads.add(new Thread(null, () -> {
                try {
                    parts.get(part).run();
                } catch (Exception e) {
                    e.printStackTrace();
                    due(part, e, "no exception");
                }
            }, part, 1 << 24));
        }
        for (Thread thread : threads) thread.start();
        for (Thread thread : threads) thread.join();
        System.out.println(wrong == 0 ? "all told runs are as due" : wrong + " answers are not as due");
        if (wrong != 0) System.exit(1);
    }

    /** An object with a count of the calls; data that are the same are laid once. */
    private static final class Scheme {
        final WindwardScheme x = new WindwardScheme();
        final Map<String, Integer> laid = new HashMap<>();
        final String what;
        int calls;
        double worst;

        Scheme(String what) {
            this.what = what;
        }

        private int keep(String key, int datum) {
            calls++;
            laid.put(key, datum);
            return datum;
        }

        int atom(String atom) {
            if (laid.containsKey(atom)) return laid.get(atom);
            if (atom.startsWith("s")) return keep(atom, x.symbol(Integer.parseInt(atom.substring(1))));
            if (atom.startsWith("#")) return keep(atom, x.truth(atom.equals("#t")));
            if (atom.equals("()")) return keep(atom, x.empty());
            return keep(atom, x.number(Integer.parseInt(atom), 1));
        }

        int pair(int first, int rest) {
            String key = first + "." + rest;
            return laid.containsKey(key) ? laid.get(key) : keep(key, x.pair(first, rest));
        }

        int lay(String text) {
            return new Layer(this, text).lay();
        }

        char begin(String program) {
            int datum = lay(program);
            calls++;
            return x.begin(datum);
        }

        char run(int fuel) {
            calls++;
            long begun = System.nanoTime();
            char state = x.run(fuel);
            double seconds = (System.nanoTime() - begun) / 1e9;
            worst = Math.max(worst, seconds);
            if (seconds > MOST_SECONDS) due(what + " seconds", seconds, "in time");
            return state;
        }

        /** Runs a program that ends with a value. */
        void does(String program) {
            due(what + " begin " + program, begin(program), 'r');
            char state = 'r';
            for (int i = 0; i < 40 && state == 'r'; i++) state = run(500);
            due(what + " " + program + (state == 'e' ? " " + x.error() : ""), state, 'v');
        }

        /** Runs a program that never ends, for as many calls as are left. */
        void goesOn(String program) throws Exception {
            goesOn(program, CALLS);
        }

        /** Runs a program that never ends, for as many calls as are left up to some. */
        void goesOn(String program, int last) throws Exception {
            due(what + " begin " + program, begin(program), 'r');
            int first = calls;
            for (; calls < last;) {
                char state = run(500);
                if (state != 'r') {
                    due(what + " run " + (calls - first) + (state == 'e' ? " " + x.error() : ""), state, 'r');
                    break;
                }
            }
            long room = RoomTests.elements(x);
            due(what + " room " + room, room < 7200000, true);
            if (System.getenv("TELL") != null) {
                System.out.printf("%s: %d calls, worst %.2f s, room %d%n", what, calls, worst, room);
            }
        }
    }

    private static final class Layer {
        private final Scheme scheme;
        private final String text;
        private int place;

        Layer(Scheme scheme, String text) {
            this.scheme = scheme;
            this.text = text;
        }

        private void skip() {
            while (place < text.length() && text.charAt(place) == ' ') place++;
        }

        int lay() {
            skip();
            if (text.charAt(place) != '(') {
                int start = place;
                while (place < text.length() && " ()".indexOf(text.charAt(place)) < 0) place++;
                return scheme.atom(text.substring(start, place));
            }
            place++;
            List<Integer> parts = new ArrayList<>();
            int end = -1;
            skip();
            while (text.charAt(place) != ')') {
                boolean isDot = text.startsWith(". ", place);
                place += isDot ? 2 : 0;
                if (isDot) end = lay();
                else parts.add(lay());
                skip();
            }
            place++;
            int list = end < 0 ? scheme.atom("()") : end;
            for (int i = parts.size() - 1; i >= 0; i--) list = scheme.pair(parts.get(i), list);
            return list;
        }
    }

    private static String times(int count, String part) {
        return (part + " ").repeat(count);
    }

    private static String symbols(int first, int count, String form) {
        StringBuilder text = new StringBuilder();
        for (int i = 0; i < count; i++) text.append(form.replace("%d", String.valueOf(first + i))).append(' ');
        return text.toString();
    }

    private static final String F = "(s2 () 1)";

    // ---- the issues

    private static void laidDataStay() throws Exception {
        for (int pairs = 0; pairs <= 11; pairs++) {
            for (int arguments : new int[] {160, 240, 330, 500}) {
                if (!isAll && (pairs + arguments / 10) % 3 != 0 && pairs != 5) continue;
                boolean areProcedures = arguments == 330;
                String value = areProcedures ? F : "1";
                Scheme x = new Scheme("32 with " + pairs + ", " + arguments);
                x.does("(s3 s33 (s2 s9 (s30 1 1)))");
                x.does("(s3 s30 (s2 (s31 s32) " + times(32, "(s5 (s4 s31 " + value + ") (s4 s32 " + value + ") (s25 1))")
                        + times(pairs, "(s16 1 1)") + "(s4 s31 1) (s33 " + times(arguments, "1") + ")))");
                int one = x.lay("1");
                x.goesOn("(s30 1 1)");
                for (int i = 0; i < x.x.data(); i++) due(x.what + " kind", "nstep".indexOf(x.x.kind(i)) >= 0, true);
                due(x.what + " kind", x.x.kind(one), 'n');
                due(x.what + " amount", x.x.amount(one), 1);
                due(x.what + " sound", x.x.isSound(), true);
            }
        }
    }

    private static void proceduresInTurns() throws Exception {
        for (int count : new int[] {1, 2, 5, 10, 20}) {
            for (int procedures = 2; procedures <= 4; procedures++) {
                StringBuilder turn = new StringBuilder();
                String[] names = {"s30", "s31", "s32", "s33"};
                for (int i = 0; i < procedures; i++) turn.append("(").append(names[i]).append(") ");
                // Global variables, the variables of one procedure around, one variable of each of many around.
                for (int sort = 0; sort < 3; sort++) {
                    Scheme x = new Scheme("33 with " + count + ", " + procedures + ", " + sort);
                    StringBuilder open = new StringBuilder();
                    StringBuilder close = new StringBuilder();
                    int around = Math.min(procedures * count, 20);
                    for (int i = 0; i < (sort == 2 ? around : 0); i++) {
                        open.append("((s2 (s").append(10 + i).append(") ");
                        close.append(") 1)");
                    }
                    if (sort == 1) {
                        open.append("((s2 (").append(symbols(10, 20, "s%d")).append(") ");
                        close.append(") ").append(times(20, "1")).append(")");
                    }
                    for (int i = 0; i < procedures; i++) x.does("(s3 " + names[i] + " 0)");
                    StringBuilder sets = new StringBuilder("(s5 ");
                    for (int i = 0; i < procedures; i++) {
                        int first = sort == 0 ? 10 + (i * count) % 20 : 10 + (i * count) % Math.max(1, around);
                        StringBuilder body = new StringBuilder();
                        for (int j = 0; j < count; j++) {
                            int last = sort == 2 ? around : 20;
                            body.append("(s4 s").append(10 + (first - 10 + j) % last).append(" ").append(F).append(") ");
                        }
                        sets.append("(s4 ").append(names[i]).append(" (s2 () ").append(body).append(")) ");
                    }
                    x.does(open + sets.toString() + ")" + close);
                    x.does("(s3 s34 (s2 () " + times(28 / procedures, turn.toString()) + " (s34)))");
                    x.goesOn("(s34)");
                }
            }
        }
    }

    private static void settingsAheadOfCalls() throws Exception {
        for (int times : new int[] {8, 12, 16}) {
            for (int sets = 1; sets <= 4; sets++) {
                for (int sort = 0; sort < 3; sort++) {
                    String f = sets == 3 ? "(s1 1 " + F + ")" : F;
                    Scheme x = new Scheme("34 with " + times + ", " + sets + ", " + sort);
                    String inner = symbols(10, sets, "(s4 s%d " + F + ")");
                    String outer = symbols(14, sets, "(s4 s%d " + F + ")");
                    String bound = sort == 1 ? symbols(14, sets, "s%d") : "";
                    String values = sort == 1 ? times(sets, "1") : "";
                    x.does("(s3 s34 0)");
                    x.does("(s3 s30 0)");
                    String a = "(s5 " + outer + "(s34 1 " + f + " 1))";
                    String of34 = "(s2 (s31 s32 . s33) " + inner + F + ")";
                    String of30 = "(s2 (" + bound + ") (1 " + times(times, a + " " + f + " " + F) + "(s30 " + values + ")))";
                    String both = "(s5 (s4 s34 " + of34 + ") (s4 s30 " + of30 + "))";
                    x.does(sort == 2 ? "((s2 (" + symbols(10, sets, "s%d") + symbols(14, sets, "s%d") + ") " + both + ") "
                            + times(2 * sets, "1") + ")" : both);
                    x.goesOn("(s30 " + values + ")");
                }
            }
        }
    }

    private static void variablesOfManyAround() throws Exception {
        for (int around : new int[] {20, 38, 44, 47}) {
            for (int variables : new int[] {20, 64, 100}) {
                aroundWith(around, variables);
            }
        }
    }

    /** Procedures within procedures, with many variables each, of which the innermost procedure sets one. */
    private static void aroundWith(int around, int variables) throws Exception {
        Scheme x = new Scheme("35 with " + around + ", " + variables);
        x.does("(s3 s52 (s0 ()))");
        for (int i = 0; i < variables; i++) x.does("(s4 s52 (s16 1 s52))");
        x.does("(s3 s50 1)");
        // s42 takes names that were made up to now, the numbers that are left, and makes a name for the next procedure.
        x.does("(s6 s42 () ((s8 s9 s10 ()) (s4 s50 (s2 () s9 (1 (s50)))))"
                + " ((s8 (s5 s11 s7) s10 (s12 s13 s7)) (s24 (s2 (s14 . s15) (s42 (s5 (s4 s14 1) s11 s7) s10 (s13 s7))) s52)))");
        x.does("(s42 (s5 1) 1 (" + times(around, "1") + "))");
        x.goesOn("(s50)");
    }

    /** Defines s41 and s42, so that (s41 (s41 ((s42)))) is a large program. */
    private static String large(Scheme x) {
        x.does("(s6 s41 () ((s8 s9) (s5 " + times(13, "s9") + ")))");
        x.does("(s6 s42 () ((s8) (s5 " + times(100, "(1 (1) (1) (1 (1) (1)))") + ")))");
        return "(s2 () (s1 #f (s41 (s41 ((s42)))) 1))";
    }

    private static void largeInTurns(Scheme x, int count) {
        String large = large(x);
        StringBuilder calls = new StringBuilder();
        for (int i = 0; i < count; i++) {
            x.does("(s3 s" + (43 + i) + " " + large + ")");
            calls.append("(s").append(43 + i).append(") ");
        }
        x.does("(s5 " + times(6, "(s5 " + calls + ")") + ")");
    }

    private static void behindLargePrograms() throws Exception {
        for (int count : new int[] {5, 8, 10, 12}) {
            for (String program : new String[] {
                "(s3 s30 (s2 (s9 s31 . s32) (s4 s10 " + F + ") (s4 s11 " + F + ") (1 1 " + F + " (s30 1 " + F + " 1))))",
                "(s3 s30 (s2 (s31 s32 s33) (1 " + times(8, "(s5 (s4 s12 " + F + ") (s4 s13 " + F + ") (s18 (s16 1 " + F + ")))")
                    + "(s30 1 1 1))))",
                "(s3 s30 (s2 (s31 s32 s33) (1 " + times(60, "s31 " + F) + "(s30 1 " + F + " 1))))"}) {
                Scheme x = new Scheme("36 with " + count);
                largeInTurns(x, count);
                x.does(program);
                x.goesOn("(s30 1 1 1)");
            }
        }
    }

    private static void behindReading() throws Exception {
        for (String text : new String[] {"(1 1 1 1 1 1 1 1 1 1 1 1 1 1 1)", "(#t (s1 . 2/3) -5 ())",
                "((((((((((((((((((((((((((((((((((((((((((((((((((((((((((1))))))))))))))))))))))))))))))))))))))))))))))))))))))))))",
                "(" + times(200, "1") + ")"}) {
            Scheme x = new Scheme("37 with " + text);
            largeInTurns(x, 10);
            x.does("(s3 s30 (s2 (s31 s32 . s33) (1 1 " + F + " (s30 1 " + F + " 1))))");
            int data = 0;
            for (int i = 0; i < text.length(); i++) x.x.type(text.charAt(i));
            x.calls += text.length();
            int first = x.x.data();
            for (int i = 0; i < 60 && x.x.data() + data <= 2900; i++) {
                int read = x.x.read();
                x.calls++;
                data = Math.max(data, x.x.data() - first);
                first = x.x.data();
                due(x.what + " read", read, first - 1);
            }
            x.goesOn("(s30 1 1 1)");
        }
    }

    private static void expandedBehindMuch() throws Exception {
        for (int runs : new int[] {0, 60, 150, 208}) {
            Scheme x = new Scheme("38 behind " + runs);
            // s38 comes to forms within one another, of which the text is long; s39 hands much on, and comes to little.
            x.does("(s6 s38 () ((s8 () s10 s13 s7) s10) ((s8 (s11 s12 s7) s10 s13 s7) (s38 (s12 s7) (s5 s10 s13 s7) s13 s7)))");
            x.does("(s6 s39 () ((s8 () s10 s7) 7) ((s8 (s11 s12 s7) s10 s7) (s39 (s12 s7) s10 s7)))");
            int wide = x.lay("(s38 (" + times(70, "1") + ") 1 " + times(13, "1") + ")");
            int shortOne = x.lay("(s39 (" + times(190, "1") + ") " + times(1000, "1") + ")");
            String before = written(x, wide) + written(x, shortOne);
            due(x.what, before, "UnsupportedOperationException7");
            largeInTurns(x, 8);
            x.does("(s3 s30 (s2 (s9 s31 . s32) (s4 s10 " + F + ") (s4 s11 " + F + ") (1 1 " + F + " (s30 1 " + F + " 1))))");
            due(x.what, x.begin("(s30 1 1 1)"), 'r');
            for (int i = 0; i < runs; i++) due(x.what + " " + i, x.run(500), 'r');
            due(x.what + " expanded", written(x, wide) + written(x, shortOne), before);
            due(x.what + " begins", x.x.begin(wide), 'r');
            due(x.what + " sound", x.x.isSound(), true);
            due(x.what + " begins", x.x.begin(shortOne), 'r');
            due(x.what + " ends", x.x.run(500), 'v');
            due(x.what + " value", x.x.valueAmount(), 7);
        }
    }

    private static String written(Scheme x, int program) {
        try {
            int length = x.x.writeExpanded(program);
            StringBuilder text = new StringBuilder();
            for (int i = 0; i < length; i++) text.append(x.x.charAt(i));
            return text.toString();
        } catch (RuntimeException e) {
            return e.getClass().getSimpleName();
        }
    }

    private static void manyTests() throws Exception {
        for (int tests : new int[] {14, 62, 169, 216, 2197}) {
            for (int sort = 0; sort < 6; sort++) {
                Scheme x = new Scheme("39 with " + tests + ", " + sort);
                String[] test = {"(s1 s33 1)", "(s1 s31 1)", "(s1 s34 1)", "(s1 s33 (s4 s13 1) (s4 s14 2))", "(s1 s32 (s4 s32 s31) 1)", "(s1 s33 1)"};
                String form = test[sort];
                x.does("(s6 s40 () ((s8 s9) (s5 " + times(13, "s9") + ")))");
                x.does("(s6 s41 () ((s8 s9) (s5 " + times(6, "s9") + ")))");
                String all = tests == 2197 ? "(s40 (s40 (s40 " + form + ")))" : tests == 216 ? "(s41 (s41 (s41 " + form + ")))"
                        : tests == 169 ? "(s40 (s40 " + form + "))" : "(s5 " + times(tests, form) + ")";
                x.does("(s3 s33 1)");
                x.does("(s3 s30 0)");
                String last = sort == 5 ? "(1 " + F + " (s30 (s5 " + all + " (s4 s10 1) (s4 s11 1) (s4 s12 1) s33) s32))"
                        : "(s30 (s5 " + all + " (s4 s10 1) (s4 s11 1) (s4 s12 1) s33) 1)";
                x.does("((s2 (s34) (s4 s30 (s2 (s31 s32) (s1 s31 1 2) " + last + "))) 1)");
                due(x.what, x.begin("(s30 1 1)"), 'r');
                for (int i = 0; i < 60; i++) {
                    due(x.what + " " + i, x.run(1), 'r');
                }
                due(x.what + " in time", x.worst < 20, true);
                x.goesOn("(s30 1 1)", isAll || tests <= 62 ? CALLS : tests > 216 ? 180 : 300);
            }
        }
    }

    private static void enteredAgain() throws Exception {
        for (int bodies : new int[] {100, 500, 2000, 5000}) {
            for (int sets : new int[] {1, 3, 12}) {
                for (int sort = 0; sort < 4; sort++) {
                    Scheme x = new Scheme("40 with " + bodies + ", " + sets + ", " + sort);
                    // Global variables, the procedure's own, those of a procedure around, own ones within a wind.
                    String set = symbols(40, sets, "(s4 s%d " + F + ")");
                    String own = sort == 1 || sort == 3 ? symbols(40, sets, "s%d") : "";
                    String values = sort == 1 || sort == 3 ? times(sets, "1") : "";
                    if (sort == 0) for (int i = 0; i < sets; i++) x.does("(s3 s" + (40 + i) + " 1)");
                    for (int name : new int[] {30, 31, 39}) x.does("(s3 s" + name + " 1)");
                    String keep = "(s22 (s2 (s8) (s4 s39 s8)))";
                    String test = "(s1 (s15 s9 0) " + (sort == 3 ? "(s23 (s2 () 1) (s2 () " + keep + ") (s2 () 2))" : keep);
                    String one = "(s2 (s9 " + own + ") " + test + " (s31 (s11 s9 1) " + values + ")) " + set + ")";
                    String other = "(s2 (s9 " + own + ") " + test + " (s30 (s11 s9 1) " + values + ")) " + set + ")";
                    String both = "(s5 (s4 s30 " + one + ") (s4 s31 " + other + "))";
                    x.does(sort == 2 ? "((s2 (" + symbols(40, sets, "s%d") + ") " + both + ") " + times(sets, "1") + ")" : both);
                    int first = x.calls + 7 + 3 * bodies / 500;
                    x.goesOn("(s5 (s30 " + bodies + " " + values + ") (s39 1))", isAll || bodies * sets <= 300 ? CALLS : Math.min(CALLS, first));
                }
            }
        }
    }

    /** Bodies are come back to by the million; later programs must see what they would see without that. */
    private static void comeBackToOften() throws Exception {
        Scheme x = new Scheme("41");
        x.does("(s6 s40 () ((s8 s9) ((s2 () s9 1))))");
        x.does("(s6 s41 () ((s8 s9) (s40 (s40 (s40 (s40 (s40 s9)))))))");
        for (int name : new int[] {30, 31, 32, 38, 39}) x.does("(s3 s" + name + " 1)");
        x.does("(s3 s35 4)");
        x.does("(s3 s36 13)");
        String eight = "s9";
        for (int i = 0; i < 2; i++) eight = "(s41 " + eight + ")";
        x.does("(s3 s30 (s2 (s9) " + eight.replace("s9", "(s1 (s15 s9 0) (s38) (s30 (s11 s9 1)))") + " 1))");
        String body = "(s2 () (s4 s36 (s11 s36 1)) (s4 s38 %o) (s1 (s15 s36 0) (s22 (s2 (s9) (s4 s39 s9))) (s30 90)) (s4 %v 1))";
        x.does("((s2 (s33 s34) (s4 s31 " + body.replace("%o", "s32").replace("%v", "s33") + ") (s4 s32 "
                + body.replace("%o", "s31").replace("%v", "s34") + ")) 1 1)");
        x.does("(s4 s35 1)");
        x.does("(s3 s53 (s2 s9 s9))");
        due(x.what, x.begin("(s5 (s31) (s39 1))"), 'r');
        for (int i = 0; i < 60; i++) due(x.what + " " + i, x.run(500), 'r');
        due(x.what + " jumps", x.x.jumps() > 200, true);
        String[] programs = {"(s53 s35 s35 s35 s35 s35 (s5 (s25 1) (s4 s35 9) (s25 1) 5))",
            "((s2 (s31 s32) (s53 s31 s32 (s5 (s25 1) (s4 s31 7) (s25 1) (s4 s32 s31) s32) s31 s32)) 3 4)",
            "((s2 (s31) ((s2 (s32) (s53 s31 (s5 (s32) (s25 1) s31) (s5 (s32) s31))) (s2 () (s4 s31 (s10 s31 1))))) 1)"};
        String[] values = {"(1 1 1 1 1 5)", "(3 4 7 7 7)", "(1 2 3)"};
        for (int i = 0; i < programs.length; i++) {
            x.does(programs[i]);
            StringBuilder text = new StringBuilder();
            int length = x.x.writeValue();
            for (int j = 0; j < length; j++) text.append(x.x.charAt(j));
            due(x.what + " " + programs[i], text, values[i]);
        }
    }
}
