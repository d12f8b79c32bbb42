import java.lang.reflect.InvocationTargetException;
import java.lang.reflect.Method;
import java.util.ArrayList;
import java.util.HashMap;
import java.util.List;
import java.util.Map;
import java.util.Random;

/**
 * Random calls and programs on WindwardScheme and on PlainScheme; every answer must be the same. The seeds are fixed, so
 * that each run is the same run. Arguments: how many objects, the first seed.
 */
public final class RandomRuns {
    private static final Map<String, Method> METHODS = new HashMap<>();

    private static final int KINDS = 10;

    private final Random random;
    private final WindwardScheme tested = new WindwardScheme();
    private final PlainScheme plain = new PlainScheme();
    private final List<String> history = new ArrayList<>();
    private int wrong;

    private RandomRuns(long seed) {
        random = new Random(seed);
    }

    public static void main(String[] args) throws Exception {
        int objects = args.length > 0 ? Integer.parseInt(args[0]) : 1500;
        long seed = args.length > 1 ? Long.parseLong(args[1]) : 1;
        for (int i = 0; i < objects; i++) {
            RandomRuns runs = new RandomRuns(seed + i);
            runs.one(i % KINDS);
            if (runs.wrong > 0) {
                System.out.println("seed " + (seed + i) + ", kind " + i % KINDS);
                for (String line : runs.history) System.out.println(line);
                System.exit(1);
            }
        }
        System.out.println("all random answers are as due");
    }

    private static Method method(Class<?> type, String name) {
        return METHODS.computeIfAbsent(type.getName() + name, key -> {
            for (Method m : type.getMethods()) if (m.getName().equals(name)) return m;
            throw new IllegalArgumentException(name);
        });
    }

    private static String answer(Object scheme, String name, Object... args) throws Exception {
        try {
            return String.valueOf(method(scheme.getClass(), name).invoke(scheme, args));
        } catch (InvocationTargetException e) {
            if (e.getCause() instanceof StackOverflowError) return "overflow";
            return "throws." + e.getCause().getClass().getSimpleName();
        }
    }

    private String call(String name, Object... args) throws Exception {
        String got = answer(tested, name, args);
        String due = answer(plain, name, args);
        StringBuilder line = new StringBuilder(name).append("(");
        for (Object arg : args) line.append(arg).append(" ");
        line.append(") answered ").append(got);
        if (!got.equals(due)) {
            wrong++;
            line.append(", due is ").append(due);
        }
        history.add(line.toString());
        return got;
    }

    private void text() throws Exception {
        StringBuilder written = new StringBuilder();
        for (int i = 0; i <= 500; i++) {
            String got = answer(tested, "charAt", i);
            String due = answer(plain, "charAt", i);
            if (!got.equals(due)) {
                wrong++;
                history.add("charAt(" + i + ") answered " + got + ", due is " + due + " behind " + written);
                return;
            }
            if (got.length() > 1) break;
            written.append(got);
        }
        history.add("text " + written);
    }

    private boolean chance(int percent) {
        return random.nextInt(100) < percent;
    }

    private String pick(String... choices) {
        return choices[random.nextInt(choices.length)];
    }

    // ---- laying

    private int place;

    /** Lays what is written in a text without any limit of length. */
    private int lay(String written) throws Exception {
        place = 0;
        return layOne(written);
    }

    private int layOne(String written) throws Exception {
        while (written.charAt(place) == ' ') place++;
        char sign = written.charAt(place);
        if (sign == '(') {
            place++;
            List<Integer> parts = new ArrayList<>();
            int end = -1;
            while (true) {
                while (written.charAt(place) == ' ') place++;
                if (written.charAt(place) == ')') break;
                if (written.startsWith(". ", place)) {
                    place += 2;
                    if (written.charAt(place) != ')') end = layOne(written);
                } else {
                    parts.add(layOne(written));
                }
            }
            place++;
            int list = end >= 0 ? end : laid(call("empty"));
            for (int i = parts.size() - 1; i >= 0; i--) list = laid(call("pair", parts.get(i), list));
            return list;
        }
        int start = place;
        while (place < written.length() && " ()".indexOf(written.charAt(place)) < 0) place++;
        String atom = written.substring(start, place);
        String made;
        if (atom.equals("#t")) made = call("truth", true);
        else if (atom.equals("#f")) made = call("truth", false);
        else if (atom.startsWith("s")) made = call("symbol", Integer.parseInt(atom.substring(1)));
        else if (atom.contains("/")) {
            String[] both = atom.split("/");
            made = call("number", Integer.parseInt(both[0]), Integer.parseInt(both[1]));
        } else made = call("number", Integer.parseInt(atom), 1);
        return laid(made);
    }

    private static int laid(String made) {
        if (made.startsWith("throws")) throw new TooMuch();
        return Integer.parseInt(made);
    }

    private static final class TooMuch extends RuntimeException {
        private static final long serialVersionUID = 1L;
    }

    private void one(int kind) throws Exception {
        try {
            int programs = 4 + random.nextInt(20);
            if (kind == 1) lay1("(define-syntax s50 (s51) ((s50) 1) ((s50 s51 s30) (s10 s30 1)) "
                    + "((s50 s30 s31 s7) ((lambda (s32) (if s32 s32 (s50 s31 s7))) s30)))");
            if (kind < 2) {
                lay1("(define s30 1)");
                lay1("(define s31 (lambda (s41 . s47) s41))");
                lay1("(define s32 (quote (1 (2 3) . 4)))");
                lay1("(define s33 (lambda (s41) (s29 s41)))");
                lay1("(define s34 (lambda s47 s47))");
                lay1("(define s35 (lambda (s41) s41))");
                lay1("(define s36 (lambda (s41) s41))");
                lay1("(define s40 (quote ()))");
            }
            for (int i = 0; i < programs && wrong == 0; i++) {
                if (kind == 2) macroProgram();
                else if (kind == 3) readings();
                else if (kind == 4) wildCalls();
                else if (kind == 5) waitingProgram(i);
                else if (kind == 6) deepProgram();
                else if (kind == 7) keptProgram(i);
                else if (kind == 8) manyVariables(i);
                else if (kind == 9) levels(i);
                else program(kind == 1);
            }
        } catch (TooMuch e) {
            history.add("too much");
        }
        if (wrong == 0) counts();
    }

    private static String words(String program) {
        return program.replace("define-syntax", "s6").replace("define", "s3").replace("lambda", "s2")
                .replace("quote", "s0").replace("if", "s1").replace("set", "s4").replace("begin", "s5");
    }

    private void lay1(String program) throws Exception {
        history.add(program);
        int datum = lay(words(program));
        call("begin", datum);
        call("run", 5);
    }

    private void counts() throws Exception {
        for (String name : new String[] {"applications", "expansions", "entered", "left", "jumps", "valueShare",
            "meanApplications", "isSound", "data"}) call(name);
    }

    private void runProgram(String program) throws Exception {
        history.add(program);
        int datum = lay(words(program));
        if (chance(30)) {
            call("writeExpanded", datum);
            text();
        }
        String state = call("begin", datum);
        int runs = 1 + random.nextInt(6);
        for (int i = 0; i < runs && state.equals("r") && wrong == 0; i++) {
            state = call("run", chance(50) ? 1 + random.nextInt(9) : 1 + random.nextInt(500));
            call("winds");
            call("handlers");
            if (chance(20)) call("isSound");
        }
        call("state");
        call("error");
        call("valueKind");
        call("valueAmount");
        call("writeValue");
        text();
        if (chance(30)) {
            int symbol = random.nextInt(60);
            call("meaning", symbol);
            call("writeGlobal", symbol);
            text();
        }
        if (chance(20)) counts();
    }

    // ---- programs

    private void program(boolean hasMacros) throws Exception {
        List<String> bound = new ArrayList<>();
        if (chance(10)) {
            runProgram("(define " + global() + " " + expression(4, bound, hasMacros) + ")");
        } else if (chance(15)) {
            runProgram("(define s40 (quote ()))");
        } else if (hasMacros && chance(20)) {
            runProgram("(define-syntax s5" + random.nextInt(3) + " (s51) ((s50 s30 . s31) (" + pick("begin", "s10", "s50")
                    + " " + expression(2, List.of("s30", "s32"), true) + " s30 (s16 s30 (quote s31)))))");
        } else {
            runProgram(expression(3 + random.nextInt(4), bound, hasMacros));
        }
    }

    private String global() {
        return "s" + (30 + random.nextInt(7));
    }

    private String name() {
        return "s" + (41 + random.nextInt(5));
    }

    private String log() {
        return "(set s40 (s16 " + random.nextInt(10) + " s40))";
    }

    private String number() {
        switch (random.nextInt(8)) {
            case 0:
                return "0";
            case 1:
                return "-" + (1 + random.nextInt(9)) + "/" + (1 + random.nextInt(5));
            case 2:
                return "1000000000";
            default:
                return String.valueOf(random.nextInt(6));
        }
    }

    private String datum(int depth) {
        if (depth == 0 || chance(40)) return pick("1", "2/3", "#t", "#f", "()", "s40", "s1", "s55");
        StringBuilder list = new StringBuilder("(");
        int count = 1 + random.nextInt(3);
        for (int i = 0; i < count; i++) list.append(datum(depth - 1)).append(" ");
        if (chance(30)) list.append(". ").append(datum(0));
        return list.append(")").toString();
    }

    private String lambda(int depth, List<String> bound, boolean hasMacros, int parameters) {
        List<String> inner = new ArrayList<>(bound);
        StringBuilder list = new StringBuilder();
        List<String> names = new ArrayList<>();
        for (int i = 0; i < parameters; i++) {
            String name = name();
            while (names.contains(name) && !chance(3)) name = name();
            names.add(name);
            list.append(name).append(" ");
            inner.add(name);
        }
        if (chance(10)) {
            String rest = "s47";
            inner.add(rest);
            list = new StringBuilder(parameters == 0 ? rest : "(" + list + ". " + rest + ")");
        } else {
            list = new StringBuilder("(" + list + ")");
        }
        String body = expression(depth - 1, inner, hasMacros);
        if (chance(35)) body = log() + " " + body;
        return "(lambda " + list + " " + body + ")";
    }

    private String variable(List<String> bound) {
        return bound.isEmpty() || chance(25) ? global() : bound.get(random.nextInt(bound.size()));
    }

    private String expression(int depth, List<String> bound, boolean hasMacros) {
        if (depth <= 0) {
            return chance(40) ? number() : chance(75) ? variable(bound) : "(quote " + datum(2) + ")";
        }
        int d = depth - 1;
        if (bound.contains("s46") && chance(15)) return "(s46 " + expression(d, bound, hasMacros) + ")";
        switch (random.nextInt(27)) {
            case 0:
                return number();
            case 1:
            case 2:
                return variable(bound);
            case 3:
                return "(if " + expression(d, bound, hasMacros) + " " + expression(d, bound, hasMacros)
                        + (chance(80) ? " " + expression(d, bound, hasMacros) : "") + ")";
            case 4:
                return lambda(depth, bound, hasMacros, random.nextInt(3));
            case 5:
            case 6: {
                int count = random.nextInt(3);
                StringBuilder call = new StringBuilder("(" + lambda(depth, bound, hasMacros, count));
                for (int i = 0; i < count || chance(4); i++) call.append(" ").append(expression(d, bound, hasMacros));
                return call + ")";
            }
            case 7:
            case 8:
                return "(s" + (10 + random.nextInt(6)) + " " + (chance(70) ? number() : expression(d, bound, hasMacros)) + " "
                        + (chance(50) ? number() : expression(d, bound, hasMacros)) + ")";
            case 9:
                return "(" + pick("s16", "s21") + " " + expression(d, bound, hasMacros) + " "
                        + expression(d, bound, hasMacros) + ")";
            case 10:
                return "(" + pick("s17", "s18", "s19", "s20", "s25", "s25", "s19") + " "
                        + (chance(50) ? "s32" : expression(d, bound, hasMacros)) + ")";
            case 11:
            case 12:
            case 13: {
                List<String> inner = new ArrayList<>(bound);
                inner.add("s46");
                String body = expression(d, inner, hasMacros);
                if (chance(50)) body = "(set " + pick("s35", "s36") + " s46) " + body;
                return "(s22 (lambda (s46) " + body + "))";
            }
            case 14:
            case 15:
            case 16:
                return "(s23 " + thunk(d, bound, hasMacros) + " " + thunk(d, bound, hasMacros) + " "
                        + thunk(d, bound, hasMacros) + ")";
            case 17:
            case 18:
                return "(s26 " + thunk(d, bound, hasMacros) + " " + lambda(d, bound, hasMacros, 1) + ")";
            case 19:
                return "(s27 " + expression(d, bound, hasMacros) + ")";
            case 20:
            case 21:
                return "(s28 " + lambda(d, bound, hasMacros, 1) + " " + thunk(d, bound, hasMacros) + ")";
            case 22:
                return "(s29 " + expression(d, bound, hasMacros) + ")";
            case 23:
                return "(begin " + expression(d, bound, hasMacros) + " " + expression(d, bound, hasMacros) + ")";
            case 24:
                return "(set " + variable(bound) + " " + expression(d, bound, hasMacros) + ")";
            case 25:
                return "(" + (chance(90) ? pick("s31", "s33", "s34", "s35", "s36", "s35", "s36") : variable(bound)) + " "
                        + expression(d, bound, hasMacros) + ")";
            default:
                if (hasMacros) {
                    return "(s5" + random.nextInt(3) + " " + (chance(20) ? "s51 " : "") + expression(d, bound, true) + " "
                            + expression(d, bound, true) + ")";
                }
                return "(s24 " + expression(d, bound, false) + " (quote " + datum(2) + "))";
        }
    }

    private String thunk(int depth, List<String> bound, boolean hasMacros) {
        return "(lambda () " + log() + " " + expression(depth, bound, hasMacros) + ")";
    }

    // ---- macros

    private final List<String> variables = new ArrayList<>();

    private String pattern(int depth) {
        int choice = random.nextInt(depth <= 0 ? 6 : 10);
        switch (choice) {
            case 0:
            case 1:
            case 2: {
                String name = "s" + (30 + random.nextInt(9));
                if (variables.contains(name) && !chance(4)) return "s8";
                variables.add(name);
                return name;
            }
            case 3:
                return pick("s8", "s51", "s52");
            case 4:
                return pick("1", "#t", "()", "2/3", chance(5) ? "s7" : "s8");
            case 5:
                return pick("s51", "s8");
            default: {
                StringBuilder list = new StringBuilder("(");
                int count = 1 + random.nextInt(3);
                for (int i = 0; i < count; i++) list.append(pattern(depth - 1)).append(" ");
                if (chance(50)) list.append("s7 ");
                else if (chance(20)) list.append(". ").append(pattern(0));
                return list.append(")").toString();
            }
        }
    }

    private String template(int depth) {
        if (depth <= 0 || chance(25)) {
            if (!variables.isEmpty() && chance(75)) return variables.get(random.nextInt(variables.size()));
            return pick("1", "#t", "s40", "s8", chance(5) ? "s7" : "s41", "s0", "()");
        }
        StringBuilder list = new StringBuilder("(");
        int count = 1 + random.nextInt(3);
        for (int i = 0; i < count; i++) {
            list.append(template(depth - 1)).append(" ");
            if (chance(40)) list.append("s7 ");
            if (chance(3)) list.append("s7 ");
        }
        if (chance(15)) list.append(". ").append(template(0));
        return list.append(")").toString();
    }

    /** A form that the pattern matches, most often. */
    private String use(String pattern) {
        StringBuilder form = new StringBuilder();
        int[] at = {0};
        fit(pattern, at, form);
        return form.toString();
    }

    private void fit(String pattern, int[] at, StringBuilder form) {
        while (pattern.charAt(at[0]) == ' ') at[0]++;
        if (pattern.charAt(at[0]) != '(') {
            int start = at[0];
            while (at[0] < pattern.length() && " ()".indexOf(pattern.charAt(at[0])) < 0) at[0]++;
            String atom = pattern.substring(start, at[0]);
            boolean isFree = atom.startsWith("s3") || atom.equals("s8");
            form.append(isFree ? datum(chance(30) ? 2 : 0) : chance(96) ? atom : "s33");
            return;
        }
        at[0]++;
        form.append("(");
        int start = at[0];
        while (true) {
            while (pattern.charAt(at[0]) == ' ') at[0]++;
            if (pattern.charAt(at[0]) == ')') break;
            if (pattern.startsWith(". ", at[0])) {
                at[0] += 2;
                if (chance(80)) form.append(". ");
            }
            if (pattern.startsWith("s7", at[0])) {
                at[0] += 2;
                continue;
            }
            int begin = at[0];
            StringBuilder part = new StringBuilder();
            fit(pattern, at, part);
            while (pattern.charAt(at[0]) == ' ') at[0]++;
            if (!pattern.startsWith("s7", at[0])) {
                form.append(part).append(" ");
                continue;
            }
            int end = at[0];
            int count = random.nextInt(4);
            for (int i = 0; i < count; i++) {
                at[0] = begin;
                fit(pattern, at, form);
                form.append(" ");
            }
            at[0] = end;
        }
        if (at[0] == start && chance(3)) form.append("1");
        at[0]++;
        form.append(")");
    }

    private void macroProgram() throws Exception {
        StringBuilder definition = new StringBuilder("(define-syntax s50 (s51" + (chance(20) ? " s52" : "") + ")");
        List<String> patterns = new ArrayList<>();
        int rules = 1 + random.nextInt(3);
        for (int i = 0; i < rules; i++) {
            variables.clear();
            String pattern = "(s8 " + pattern(3) + (chance(40) ? " s7" : chance(40) ? " " + pattern(2) : "") + ")";
            patterns.add(pattern);
            String template = template(4);
            if (chance(75)) template = "(quote " + template + ")";
            else if (chance(30)) template = "(s55 " + template + ")";
            definition.append(" (").append(pattern).append(" ").append(template).append(")");
        }
        runProgram(definition + ")");
        if (chance(30)) {
            runProgram("(define-syntax s55 () ((s8 s30) " + pick("s30", "(quote s30)", "((lambda (s41 s30) s41) (quote s30) 1)",
                    "(s50 s30)", "(s50 . s30)", "(quote (s30 s41 s30))", "(s21 (quote s30) (quote s30))",
                    "((lambda (s41) (s21 (s17 s41) (s17 (s18 s41)))) (quote (s30 s30)))") + "))");
        }
        for (int i = 0; i < 6 && wrong == 0; i++) {
            String use = use(patterns.get(random.nextInt(patterns.size())));
            int blank = use.indexOf(' ');
            String form = blank < 0 ? "(s50)" : "(s50" + use.substring(blank);
            if (chance(20)) form = "((lambda (s5" + random.nextInt(3) + ") " + form + ") 1)";
            if (chance(10)) form = "(s55 " + form + ")";
            runProgram(form);
        }
    }

    // ---- programs with many parts that wait, variables that are set meanwhile, and continuations

    private void waitingProgram(int number) throws Exception {
        if (number == 0) {
            lay1("(define s34 (lambda s47 s47))");
            lay1("(define s30 1)");
            lay1("(define s31 (quote (1 2)))");
            lay1("(define s32 (lambda () s30))");
            lay1("(define s33 #f)");
            lay1("(define s35 (lambda (s41) s41))");
            lay1("(define s37 0)");
            lay1("(define s38 s34)");
        }
        List<String> none = new ArrayList<>();
        switch (random.nextInt(4)) {
            case 0:
                lay1("(set s37 0)");
                runProgram("(define s38 " + loop() + ")");
                runProgram("(s38 0" + parts(random.nextInt(7), 1, none) + ")");
                break;
            case 1:
                lay1("(set s37 0)");
                runProgram("(define s32 (lambda () " + part(3, none) + "))");
                break;
            default:
                lay1("(set s37 0)");
                runProgram(part(4 + random.nextInt(3), none));
        }
    }

    /** A procedure that applies itself, and hands its arguments on, some at other places. */
    private String loop() {
        int count = random.nextInt(7);
        List<String> names = new ArrayList<>();
        StringBuilder parameters = new StringBuilder("s41");
        names.add("s41");
        for (int i = 0; i < count; i++) {
            names.add("s" + (48 + i));
            parameters.append(" s").append(48 + i);
        }
        boolean hasRest = chance(25);
        if (hasRest) {
            names.add("s47");
            parameters.append(" . s47");
        }
        StringBuilder again = new StringBuilder("(s38 (s10 s41 1)");
        for (int i = 0; i < count; i++) {
            again.append(" ").append(chance(60) ? names.get(1 + random.nextInt(count)) : part(2, names));
        }
        if (hasRest) again.append(parts(random.nextInt(3), 1, names));
        again.append(")");
        if (hasRest && chance(30)) again = new StringBuilder("(s24 s38 (s16 (s10 s41 1) (s34" + parts(count, 1, names) + ")))");
        String body = again.toString();
        boolean isTail = chance(50);
        if (!isTail) body = "(s34" + parts(random.nextInt(3), 2, names) + " " + body + parts(random.nextInt(3), 2, names) + ")";
        if (chance(30)) body = "(begin " + part(2, names) + " " + body + ")";
        if (chance(20)) body = "((lambda (s42) " + body + ") " + part(1, names) + ")";
        return "(lambda (" + parameters + ") (if (s14 s41 " + (isTail ? 5 + random.nextInt(50) : 1 + random.nextInt(6)) + ") "
                + body + " (s34 " + String.join(" ", names) + ")))";
    }

    private String parts(int count, int depth, List<String> bound) {
        StringBuilder list = new StringBuilder();
        for (int i = 0; i < count; i++) list.append(" ").append(part(depth, bound));
        return list.toString();
    }

    private String target(List<String> bound) {
        return bound.isEmpty() || chance(30) ? pick("s30", "s31", "s33") : bound.get(random.nextInt(bound.size()));
    }

    private String part(int depth, List<String> bound) {
        if (depth <= 0 || chance(15)) {
            return chance(20) ? pick("1", "2/3", "#t", "#f", "(quote (1 (2)))", "(lambda () s30)") : target(bound);
        }
        int d = depth - 1;
        switch (random.nextInt(20)) {
            case 0:
                return "(if " + part(d, bound) + " " + part(d, bound) + (chance(80) ? " " + part(d, bound) : "") + ")";
            case 1:
                return "(begin" + parts(1 + random.nextInt(3), d, bound) + ")";
            case 2:
                return "(begin (set " + target(bound) + " " + part(d, bound) + ") " + part(d, bound) + ")";
            case 3:
                return "(set " + target(bound) + " " + part(d, bound) + ")";
            case 4:
            case 5:
                return "(s34" + parts(random.nextInt(5), d, bound) + ")";
            case 6:
            case 7:
            case 8: {
                int count = random.nextInt(6);
                List<String> inner = new ArrayList<>(bound);
                StringBuilder list = new StringBuilder();
                for (int i = 0; i < count; i++) {
                    String name = "s" + (40 + i + random.nextInt(3) * 5);
                    if (inner.subList(bound.size(), inner.size()).contains(name)) name = "s" + (20 + i);
                    inner.add(name);
                    list.append(i > 0 ? " " : "").append(name);
                }
                boolean hasRest = chance(20);
                String parameters = "(" + list + (hasRest && count > 0 ? " . s56" : "") + ")";
                if (hasRest && count == 0) parameters = "s56";
                if (hasRest) inner.add("s56");
                String lambda = "(lambda " + parameters + " " + (chance(40) ? part(d, inner) + " " : "") + part(d, inner) + ")";
                int given = count + (hasRest ? random.nextInt(4) : 0);
                if (chance(20)) return "(s24 " + lambda + " (s34" + parts(given, d, bound) + "))";
                return "(" + lambda + parts(given, d, bound) + ")";
            }
            case 9:
                return "(s22 (lambda (s57) (begin (set s35 s57) " + part(d, bound) + ")))";
            case 10:
            case 11:
                return "(if (s14 s37 4) (begin (set s37 (s10 s37 1)) (s35 " + part(d, bound) + ")) " + part(d, bound) + ")";
            case 12:
                return "(s21 " + part(d, bound) + " " + part(d, bound) + ")";
            case 13:
                return "(s17 (s34 " + part(d, bound) + parts(random.nextInt(2), d, bound) + "))";
            case 14:
                return "(s18 (s34 " + part(d, bound) + parts(random.nextInt(3), d, bound) + "))";
            case 15:
                return "(lambda () " + part(d, bound) + ")";
            case 16:
                return "((lambda (s58) (s34 (s21 s58 s58) (s58) (s21 s58 " + target(bound) + "))) (lambda () " + part(d, bound) + "))";
            case 17:
                return chance(50) ? "(s32)" : "(set s32 (lambda () " + part(d, bound) + "))";
            case 18:
                return "(s16 " + part(d, bound) + " " + part(d, bound) + ")";
            default:
                return "((lambda (s59) (s34 (s59) " + part(d, bound) + " (s59))) (lambda () (set " + target(bound) + " "
                        + part(d, bound) + ") " + target(bound) + "))";
        }
    }

    // ---- procedures with many parameters that apply themselves deeply, so that many values wait, and come back

    private List<String> numbers;
    private List<String> thunks;

    private String numberForm(int depth) {
        String number = numbers.get(random.nextInt(numbers.size()));
        if (depth == 0) return chance(60) ? number : String.valueOf(random.nextInt(9));
        switch (random.nextInt(9)) {
            case 0:
                return "(s10 " + number + " " + random.nextInt(3) + ")";
            case 1:
                return "(s11 " + numberForm(depth - 1) + " " + number + ")";
            case 2:
                return thunks.isEmpty() ? number : "(" + thunks.get(random.nextInt(thunks.size())) + ")";
            case 3:
                return "(begin (set " + number + " " + numberForm(depth - 1) + ") " + numberForm(depth - 1) + ")";
            case 4:
                return "(if (s14 " + number + " " + random.nextInt(9) + ") " + numberForm(depth - 1) + " " + numberForm(depth - 1) + ")";
            case 5:
                return "((lambda (s39) s39) " + numberForm(depth - 1) + ")";
            case 6:
                return "(s17 (s16 " + numberForm(depth - 1) + " " + number + "))";
            default:
                return numberForm(0);
        }
    }

    private String thunkForm(int depth) {
        String number = numbers.get(random.nextInt(numbers.size()));
        String thunk = thunks.get(random.nextInt(thunks.size()));
        if (depth == 0) return chance(50) ? thunk : "(lambda () " + numberForm(0) + ")";
        switch (random.nextInt(5)) {
            case 0:
                return "(begin (set " + thunk + " " + thunkForm(depth - 1) + ") " + thunkForm(depth - 1) + ")";
            case 1:
                return "(lambda () (begin (set " + number + " " + numberForm(0) + ") " + number + "))";
            default:
                return thunkForm(0);
        }
    }

    /** Forms for values, one behind the other in a text; what adds them up, if they are bound to s40 on, behind it. */
    private String[] waiting(int count, int from) {
        StringBuilder forms = new StringBuilder();
        String sum = "";
        for (int i = 0; i < count; i++) {
            String name = "s" + (from + i);
            boolean isThunk = !thunks.isEmpty() && chance(35);
            forms.append(" ").append(isThunk ? thunkForm(chance(20) ? 1 : 0) : numberForm(chance(20) ? 2 : 0));
            sum += "(s10 " + (isThunk ? "(" + name + ")" : name) + " ";
        }
        return new String[] {forms.toString(), sum};
    }

    private void deepProgram() throws Exception {
        numbers = new ArrayList<>();
        thunks = new ArrayList<>();
        int count = 1 + random.nextInt(chance(50) ? 4 : 13);
        for (int i = 0; i < count; i++) numbers.add("s" + (40 + i));
        int thunkCount = chance(40) ? 0 : 1 + random.nextInt(6);
        for (int i = 0; i < thunkCount; i++) thunks.add("s" + (53 + i));
        String names = String.join(" ", numbers) + " " + String.join(" ", thunks);
        StringBuilder all = new StringBuilder();
        for (String number : numbers) all.append("(s10 ").append(number).append(" ");
        for (String thunk : thunks) all.append("(s10 (").append(thunk).append(") ");
        String sum = all + "0" + ")".repeat(count + thunkCount);
        StringBuilder again = new StringBuilder("(s38 (s10 s59 1)");
        boolean isShift = chance(50);
        for (int i = 0; i < count; i++) {
            again.append(" ").append(isShift && i > 0 ? numbers.get(i - 1) : numberForm(chance(20) ? 2 : 0));
        }
        for (int i = 0; i < thunkCount; i++) {
            again.append(" ").append(isShift && i > 0 ? thunks.get(i - 1) : thunkForm(chance(20) ? 1 : 0));
        }
        again.append(")");
        String[] ahead = waiting(random.nextInt(9), 40);
        String[] behind = waiting(random.nextInt(5), 50);
        int aheadCount = ahead[1].split("s10").length - 1;
        int behindCount = behind[1].split("s10").length - 1;
        StringBuilder bound = new StringBuilder();
        for (int i = 0; i < aheadCount; i++) bound.append("s").append(40 + i).append(" ");
        bound.append("s59 ");
        for (int i = 0; i < behindCount; i++) bound.append("s").append(50 + i).append(" ");
        lay1("(define s36 (lambda (" + bound + ") " + ahead[1] + behind[1] + "s59" + ")".repeat(aheadCount + behindCount) + "))");
        lay1("(define s34 (lambda (s59) s59))");
        int depth = 1 + random.nextInt(chance(70) ? 40 : 150);
        String kept = chance(40) ? "(if (s15 s59 " + random.nextInt(depth) + ") (s22 (lambda (s37) (begin (set s34 s37) 0))) 0)" : "0";
        String body = chance(20) ? again.toString() : "(s36" + ahead[0] + " (s10 " + kept + " " + again + ")" + behind[0] + ")";
        String settings = chance(30) ? numberForm(2) + " " : "";
        lay1("(define s38 (lambda (s59 " + names + ") " + settings + "(if (s14 s59 " + depth + ") " + body + " " + sum + ")))");
        StringBuilder first = new StringBuilder("(s38 0");
        for (int i = 0; i < count; i++) first.append(" ").append(random.nextInt(20));
        for (int i = 0; i < thunkCount; i++) first.append(" (lambda () ").append(random.nextInt(20)).append(")");
        longRun(first + ")");
        longRun("(s34 3)");
    }

    private void longRun(String program) throws Exception {
        history.add(program);
        String state = call("begin", lay(words(program)));
        for (int i = 0; i < 60 && state.equals("r") && wrong == 0; i++) state = call("run", 1 + random.nextInt(500));
        call("error");
        call("writeValue");
        text();
    }

    // ---- what macros quote and make procedures of is kept in s40, and taken apart by later programs

    private String quoted(int depth) {
        if (depth == 0 || chance(25)) return pick("s30", "s31", "s41", "s42", "1", "2/3", "#f", "()", "s30", "s0");
        StringBuilder list = new StringBuilder("(");
        int count = 1 + random.nextInt(4);
        for (int i = 0; i < count; i++) list.append(chance(15) ? "s32 s7" : quoted(depth - 1)).append(' ');
        if (chance(20)) list.append(". ").append(quoted(0));
        return list.append(")").toString();
    }

    private String made(int depth) {
        switch (random.nextInt(depth <= 0 ? 3 : 6)) {
            case 0:
                return "(quote " + quoted(3) + ")";
            case 1:
                return "(quote s30)";
            case 2:
                return pick("(quote (s30 s30 s32 s7))", "1", "(s34 (quote s32) s7)", "s40");
            case 3:
                return "(lambda s41 " + made(depth - 1) + ")";
            case 4:
                return "(lambda (s41 . s42) (s34 s41 s42 " + made(depth - 1) + "))";
            default:
                return "((lambda (s41) (s34 s41 s41 " + made(depth - 1) + ")) " + made(depth - 1) + ")";
        }
    }

    private String element() {
        String list = "s40";
        int steps = random.nextInt(5);
        for (int i = 0; i < steps; i++) list = "(s18 " + list + ")";
        return "(s17 " + list + ")";
    }

    private String probe(int depth) {
        if (depth == 0) return element();
        String p = probe(depth - 1);
        switch (random.nextInt(9)) {
            case 0:
                return "(s17 " + p + ")";
            case 1:
                return "(s18 " + p + ")";
            case 2:
                return "(s21 " + p + " " + probe(depth - 1) + ")";
            case 3:
                return "(s24 s34 " + p + ")";
            case 4:
                return "(" + p + " " + probe(0) + ")";
            case 5:
                return "(s34 " + p + " " + probe(0) + " (s18 " + p + "))";
            case 6:
                return "(s24 (lambda (s41 s42 s43 s44 s45 s46 . s47) (s34 s46 s47 s41)) (s34 " + p + " " + p + " 3 4 5 6 7))";
            case 7:
                return "(s24 " + p + " " + probe(0) + ")";
            default:
                return "((lambda (s41) (s34 (s21 s41 " + p + ") s41)) " + p + ")";
        }
    }

    private void keptProgram(int number) throws Exception {
        if (number == 0) {
            lay1("(define s34 (lambda s47 s47))");
            lay1("(define s40 (quote ()))");
            lay1("(define s35 #f)");
            for (int i = 0; i < 3; i++) lay1("(define-syntax s5" + i + " () ((s50 s30 . s31) (set s40 (s16 (quote (s30 s41 " + quoted(2).replace("s32 s7", "s30") + ")) s40))))");
            lay1("(define-syntax s53 () ((s50 s54 s55 s7) (begin (s50 s54) s55 s7)))");
        }
        if (number % 5 == 3) {
            lay1("(define-syntax s5" + random.nextInt(3) + " (s39) ((s50 s30 (s32 s7) . s31) (set s40 (s16 " + made(2) + " s40)))"
                    + " ((s50 s30) (set s40 (s34 (quote " + quoted(3).replace("s32 s7", "s30").replace("s31", "s30") + ") s40 s40))))");
        }
        switch (random.nextInt(4)) {
            case 0:
                runProgram("(s5" + random.nextInt(3) + " " + datum(2) + " (" + datum(1) + " " + datum(0) + ") " + datum(2) + " " + datum(1) + ")");
                break;
            case 1:
                runProgram("(begin (s5" + random.nextInt(3) + " " + datum(1) + " (1 2 s41) 3) (s5" + random.nextInt(3) + " " + datum(2)
                        + ") (s53 " + datum(1) + " 4) (s22 (lambda (s41) (set s35 s41))) s40)");
                break;
            case 2:
                runProgram(chance(30) ? "(if s35 (s35 1) 2)" : "(set s40 (s34 " + element() + " " + element() + " " + element() + "))");
                break;
            default:
                runProgram(probe(1 + random.nextInt(3)));
        }
        call("writeGlobal", 40);
        text();
    }

    // ---- procedures with more variables than there are symbols, which are set and handed on at other places

    private void manyVariables(int number) throws Exception {
        if (number > 0) {
            runProgram(chance(50) ? "(s31 " + random.nextInt(20) + ")" : "(s59 " + (20 + random.nextInt(30)) + " " + all() + ")");
            return;
        }
        lay1("(define s40 (lambda s47 s47))");
        lay1("(define s31 (lambda (s41) s41))");
        lay1("(define s38 0)");
        lay1("(define-syntax s50 () ((s8 () (s31 s7)) (s51 s31 s7)) "
                + "((s8 (s32 s33 s7) (s31 s7)) (s50 (s33 s7) ((s34 s35) (s36 s37) s31 s7))))");
        String wait = chance(50) ? "(s40 s32 s35 s7 " : "(s40 (lambda () s34) s36 s7 s33 ";
        String kept = chance(50) ? "(if (s15 s30 " + (30 + random.nextInt(30)) + ") (s22 (lambda (s57) (begin (set s31 s57) 1))) 2) " : "";
        lay1("(define-syntax s51 () ((s8 (s32 s34) (s33 s56) (s35 s36) s7) (define s59 (lambda (s30 s32 s33 s35 s7 s34 s56 s36 s7) "
                + "(if (s14 s30 60) (begin " + settings() + rowSettings() + "(s17 (s18 " + wait + kept + "(if s32 (s59 (s10 s30 1) " + order()
                + ") (begin " + rowSettings() + settings() + "(s59 (s10 s30 1) " + order() + "))) s35 s7)))) (s40 s32 s35 s7))))))");
        StringBuilder numbers = new StringBuilder();
        int half = 2 + random.nextInt(12);
        for (int i = 0; i < half; i++) numbers.append(i).append(' ');
        pairs = 2 * half;
        lay1("(s50 (" + numbers + ") ())");
        runProgram("(s59 " + (20 + random.nextInt(40)) + " " + all() + ")");
    }

    private int pairs;

    private String order() {
        return pick("s33 s56 s35 s7 s32 s34 s36 s7", "s34 s32 s36 s7 s33 s56 s35 s7", "s36 s7 s34 s35 s7 s33 s56 s32",
                "(if s56 s34 s32) (s17 (s40 s34)) s36 s7 (begin 1 s33) s35 s7 s56", "(lambda () s34) s33 s35 s7 s56 s36 s7 s32");
    }

    private String settings() {
        return pick("", "(set s32 s34) ", "(begin (set s38 s32) (set s32 s33) (set s33 s38)) ", "(set s34 s56) (set s56 s32) ");
    }

    private String rowSettings() {
        return pick("", "(set s35 s36) s7 ", "(set s36 s35) s7 (set s38 s33) ", "(begin (set s38 s35) (set s35 s36) (set s36 s38)) s7 ");
    }

    private String all() {
        StringBuilder numbers = new StringBuilder();
        for (int i = 0; i < 2 * pairs; i++) numbers.append(chance(30) ? "#f" : String.valueOf(random.nextInt(9))).append(' ');
        return numbers.toString();
    }

    // ---- variables of procedures within procedures, which the innermost one sets while its calls wait

    private int levelCount;

    private String levelNames() {
        StringBuilder names = new StringBuilder();
        for (int i = 0; i < levelCount; i++) if (chance(60)) names.append(" s").append(41 + i);
        return names + " s39";
    }

    private String levelSettings() {
        StringBuilder settings = new StringBuilder();
        boolean areAll = chance(50);
        for (int i = 0; i < levelCount; i++) {
            if (!areAll && chance(50)) continue;
            String name = "s" + (41 + i);
            String other = "s" + (41 + random.nextInt(levelCount));
            settings.append("(set ").append(name).append(" ").append(pick(other, other, other, "(s16 s59 ())".replace("()", "(quote ())"),
                    "(lambda () " + other + ")", "s59", "(if " + other + " " + name + " s59)")).append(") ");
        }
        if (chance(30)) settings.append("(set s39 s41) ");
        return settings.toString();
    }

    private void levels(int number) throws Exception {
        if (number == 0) {
            lay1("(define s34 (lambda s47 s47))");
            lay1("(define s31 (lambda (s41) s41))");
            lay1("(define s39 0)");
            lay1("(define s38 #f)");
        } else if (chance(40)) {
            runProgram(pick("(s31 " + number + ")", "(s38 " + random.nextInt(20) + ")", "(s24 s34 (s38 " + (5 + random.nextInt(15)) + "))"));
            return;
        }
        levelCount = 1 + random.nextInt(9);
        String kept = chance(50) ? "(if (s15 s59 " + (10 + random.nextInt(10)) + ") (s22 (lambda (s57) (begin (set s31 s57) 1))) 2) " : "";
        String again = "(s38 (s10 s59 1))";
        String wait = pick("(s34" + levelNames() + " " + kept + again + levelNames() + ")", "(begin " + again + " " + kept + levelSettings() + "(s34" + levelNames() + "))",
                "(s17 (s18 (s34" + levelNames() + " " + kept + again + ")))", "(begin " + kept + levelSettings() + again + ")");
        StringBuilder program = new StringBuilder("(set s38 ");
        for (int i = 0; i < levelCount; i++) program.append("((lambda (s").append(41 + i).append(chance(20) ? " . s58) " : ") ");
        program.append("(lambda (s59) (if (s14 s59 20) (begin ").append(levelSettings()).append("(s25 1) ").append(levelSettings()).append(wait)
                .append(") (s34").append(levelNames()).append(")))");
        for (int i = levelCount; i > 0; i--) program.append(") ").append(i % 3 == 0 ? "#f" : String.valueOf(i)).append(")");
        runProgram(program + ")");
        runProgram("(s38 " + random.nextInt(20) + ")");
    }

    // ---- wild calls

    private int wild() {
        switch (random.nextInt(6)) {
            case 0:
                return random.nextInt();
            case 1:
                return new int[] {Integer.MIN_VALUE, Integer.MAX_VALUE, -1, 0, 1, 59, 60, 500, 501, 3000, -1000000000, 1000000000,
                    -1000000001, 1000000001}[random.nextInt(14)];
            default:
                return random.nextInt(Math.max(1, plain.data() + 2)) - 1;
        }
    }

    /** Any method with any arguments, in any state. */
    private void wildCalls() throws Exception {
        List<Method> methods = new ArrayList<>();
        for (Method m : WindwardScheme.class.getDeclaredMethods()) {
            if (java.lang.reflect.Modifier.isPublic(m.getModifiers())) methods.add(m);
        }
        methods.sort((a, b) -> a.getName().compareTo(b.getName()));
        for (int i = 0; i < 60 && wrong == 0; i++) {
            if (chance(50)) {
                call("pair", wild(), wild());
                if (chance(30)) call("symbol", random.nextInt(62) - 1);
                continue;
            }
            Method m = methods.get(random.nextInt(methods.size()));
            Object[] args = new Object[m.getParameterCount()];
            for (int j = 0; j < args.length; j++) {
                Class<?> type = m.getParameterTypes()[j];
                args[j] = type == boolean.class ? (Object) chance(50)
                        : type == char.class ? (Object) (chance(80) ? "()s0123456789#tf ./-".charAt(random.nextInt(20)) : (char) wild())
                        : (Object) wild();
            }
            String got = call(m.getName(), args);
            if (m.getName().startsWith("write") && !got.startsWith("throws")) text();
        }
    }

    // ---- readings

    private void readings() throws Exception {
        call("clear");
        StringBuilder written = new StringBuilder();
        int count = 1 + random.nextInt(chance(20) ? 200 : 12);
        int open = 0;
        for (int i = 0; i < count; i++) {
            switch (random.nextInt(14)) {
                case 0:
                case 1:
                case 2:
                    written.append("(");
                    open++;
                    break;
                case 3:
                case 4:
                    if (open > 0 || chance(10)) {
                        written.append(")");
                        open--;
                    }
                    break;
                case 5:
                    written.append(open > 0 ? " . " : " ");
                    break;
                case 6:
                    written.append(pick("#t", "#f", "#", "#x", " ", "-", "/", ".")).append(chance(80) ? " " : "");
                    break;
                case 7:
                    written.append("s").append(random.nextInt(chance(90) ? 60 : 100)).append(" ");
                    break;
                case 8:
                    written.append(pick("00012", "-0", "000000000000000001", "0000000000000000001", "1/0", "6/4", "-6/-4",
                            "1000000000", "1000000001", "2000000002/2", "2000000000/2", "-1000000000/999999999",
                            "999999999999999999/999999999999999999", "s059", "s000000000000000007")).append(" ");
                    break;
                default:
                    written.append(random.nextInt(20)).append(chance(90) ? " " : "");
            }
        }
        while (open-- > 0 && !chance(5)) written.append(")");
        if (chance(10)) {
            String end = "1";
            int levels = 56 + random.nextInt(8);
            for (int i = 0; i < levels; i++) end = (chance(50) && end.length() < 300 ? "(2 " : "(") + end + ")";
            written = new StringBuilder(end);
        } else if (chance(5)) {
            String end = "()";
            int levels = 70 + random.nextInt(12);
            for (int i = 0; i < levels; i++) end = "(1 . " + end + ")";
            written = new StringBuilder(end);
        }
        for (int i = 0; i < written.length() && i < 501; i++) call("type", written.charAt(i));
        int before = Integer.parseInt(call("data"));
        String made = call("read");
        int after = Integer.parseInt(call("data"));
        for (int i = before; i < after; i++) {
            call("kind", i);
            call("part", i, true);
            call("part", i, false);
            call("amount", i);
            call("asDouble", i);
        }
        if (!made.startsWith("throws")) {
            int datum = Integer.parseInt(made);
            call("write", datum);
            text();
            call("areAlike", datum, random.nextInt(after + 2) - 1);
            call("read");
            call("areAlike", datum, Integer.parseInt(call("data")) - 1);
        }
    }
}
