import java.util.ArrayList;
import java.util.List;
import java.util.Random;
import java.util.concurrent.atomic.AtomicInteger;

/**
 * Procedures made at random call themselves some thousand times, each time setting variables and leaving values that wait,
 * and are come back to, perhaps several times by a continuation; behind each call variables are compared with what they were.
 * WindwardScheme and PlainScheme must come to the same number. Arguments: how many programs, the first seed, how deep.
 */
public final class DeepRuns {
    private static final int[] NAMES = {11, 15, 17, 18, 25, 27, 29, 31, 32, 33, 34, 35, 36, 37, 38, 39, 40, 41,
        42, 43, 44, 45, 46, 47, 48, 49, 50, 51, 52, 53, 54, 55, 56, 57, 58, 59};
    private static final double MOST_SECONDS = 60;

    private final Random random;
    private final List<Integer> seen = new ArrayList<>();
    private final List<Integer> settable = new ArrayList<>();
    private int arguments;
    private int extra;

    private DeepRuns(long seed) {
        random = new Random(seed);
    }

    public static void main(String[] args) throws Exception {
        int count = args.length > 0 ? Integer.parseInt(args[0]) : 60;
        long first = args.length > 1 ? Long.parseLong(args[1]) : 1;
        int deep = args.length > 2 ? Integer.parseInt(args[2]) : 3000;
        AtomicInteger next = new AtomicInteger();
        AtomicInteger wrong = new AtomicInteger();
        List<Thread> threads = new ArrayList<>();
        for (int i = 0; i < 3; i++) {
            threads.add(new Thread(null, () -> {
                for (int n = next.getAndIncrement(); n < count; n = next.getAndIncrement()) {
                    String fault = new DeepRuns(first + n).fault(deep);
                    if (fault != null) {
                        wrong.incrementAndGet();
                        System.out.println("seed " + (first + n) + ": " + fault);
                    }
                }
            }, "runs", 1 << 26));
            threads.get(i).start();
        }
        for (Thread thread : threads) thread.join();
        System.out.println(wrong.get() == 0 ? "all deep runs come to what is due" : wrong.get() + " runs are not as due");
        if (wrong.get() != 0) System.exit(1);
    }

    private String fault(int deep) {
        boolean isAgain = random.nextInt(3) == 0;
        String procedure = procedure(isAgain);
        seen.clear();
        settable.clear();
        settable.add(20);
        String[] programs = {"(s3 s9 " + deep + ")", "(s3 s12 0)", "(s3 s13 0)", "(s3 s30 0)",
            "(s3 s8 (s2 (s31 s32 s33) ((s2 (s34) (s10 (s10 s34 s34) (s1 (s21 s32 s33) 1 0))) (s1 (s14 s31 400000000) s31 (s28 s31 400000000)))))",
            "(s3 s7 (s2 (s31 s32 s33 s34 s35) (s8 (s8 s33 s31 s34) s32 s35)))", procedure,
            "((s2 (s59) (s4 s13 (s10 s13 1)) (s1 (s14 s13 " + (isAgain ? 3 : 1) + ") (s12 s13) s59)) (s30" + values(arguments) + "))"};
        WindwardScheme x = new WindwardScheme();
        PlainScheme plain = new PlainScheme();
        begin(x, plain, "(s3 s28 s11)");
        step(x, plain);
        for (int i = 0; i < programs.length; i++) {
            begin(x, plain, programs[i]);
            String fault = step(x, plain);
            if (fault != null) return fault + " of " + String.join(" ", programs);
        }
        if (x.state() == 'e') return "ended with " + x.error() + ": " + String.join(" ", programs);
        return null;
    }

    private static void begin(WindwardScheme x, PlainScheme plain, String program) {
        x.begin(new Layer(x, plain, program).lay());
        plain.begin(plain.data() - 1);
    }

    private static String step(WindwardScheme x, PlainScheme plain) {
        for (int i = 0; i < 2000 && plain.state() == 'r'; i++) {
            long begun = System.nanoTime();
            char state = x.run(500);
            double seconds = (System.nanoTime() - begun) / 1e9;
            if (seconds > MOST_SECONDS) return "a call took " + seconds + " s";
            char due = plain.run(500);
            if (state != due) return "state " + state + (state == 'e' ? " " + x.error() : "") + ", due is " + due;
        }
        if (x.applications() != plain.applications()) return "applications " + x.applications() + ", due is " + plain.applications();
        if (x.state() == 'v' && (x.valueKind() != plain.valueKind() || x.valueKind() == 'n' && x.valueAmount() != plain.valueAmount())) {
            return "value " + (x.valueKind() == 'n' ? x.valueAmount() + ", due is " + plain.valueAmount() : "another kind");
        }
        return null;
    }

    private String values(int count) {
        StringBuilder text = new StringBuilder();
        for (int i = 0; i < count; i++) text.append(' ').append(value(0));
        return text.toString();
    }

    private String procedure(boolean isAgain) {
        List<Integer> names = new ArrayList<>();
        for (int name : NAMES) names.add(name);
        java.util.Collections.shuffle(names, random);
        int levels = random.nextInt(4);
        StringBuilder open = new StringBuilder();
        StringBuilder close = new StringBuilder();
        settable.add(20);
        settable.add(19);
        for (int i = 0; i < levels; i++) {
            int count = 1 + random.nextInt(3);
            open.append("((s2 (");
            for (int j = 0; j < count; j++) bind(names, open);
            open.append(") ");
            close.insert(0, ")" + " (s2 () 1)".repeat(count) + ")");
        }
        boolean hasRest = random.nextInt(4) == 0;
        int parameters = random.nextInt(2) == 0 ? random.nextInt(20) : random.nextInt(6);
        StringBuilder list = new StringBuilder();
        for (int i = 0; i < parameters; i++) bind(names, list);
        arguments = parameters;
        if (hasRest) {
            list.append(parameters == 0 ? "" : " . ");
            bind(names, list);
            arguments += random.nextInt(6);
        }
        extra = names.remove(names.size() - 1);
        String bound = hasRest && parameters == 0 ? list.toString().trim() : "(" + list + ")";
        return "(s4 s30 " + open + "(s2 " + bound + " (s4 s9 (s28 s9 1)) " + body(isAgain) + ")" + close + ")";
    }

    private void bind(List<Integer> names, StringBuilder text) {
        int name = names.remove(names.size() - 1);
        text.append(" s").append(name);
        seen.add(name);
        settable.add(name);
    }

    private String body(boolean isAgain) {
        String base = isAgain ? "(s22 (s2 (s" + extra + ") (s4 s12 s" + extra + ") 0))" : "0";
        String call = "(s30" + values(arguments) + ")";
        if (random.nextInt(5) == 0) call = "(s5 " + settings(1) + " " + call + ")";
        if (random.nextInt(3) == 0) call = "((s2 (s" + extra + ") " + settings(4) + " s" + extra + ") " + call + ")";
        String[] checked = {value(0), value(0), value(0), value(0)};
        if (random.nextBoolean()) checked[2] = checked[0];
        if (random.nextBoolean()) checked[3] = checked[1];
        call = "(s7 " + checked[0] + " " + checked[1] + " " + call + " " + checked[2] + " " + checked[3] + ")";
        if (random.nextInt(4) == 0) {
            call = "((s2 (s" + extra + ") " + settings(4) + " (s8 s" + extra + " " + value(0) + " " + value(0) + ")) " + call + ")";
        }
        return settings(random.nextInt(3) == 0 ? 8 : 3) + " (s1 (s14 s9 1) " + base + " " + call + ")";
    }

    private String settings(int most) {
        StringBuilder text = new StringBuilder("1 ");
        for (int i = random.nextInt(most + 1); i > 0; i--) {
            boolean isChoice = random.nextInt(4) == 0;
            text.append(isChoice ? "(s1 " + value(0) + " " + setting() + " " + setting() + ") " : setting() + " ");
        }
        return text.toString();
    }

    private String setting() {
        return "(s4 s" + settable.get(random.nextInt(settable.size())) + " " + value(0) + ")";
    }

    private String value(int depth) {
        int kind = random.nextInt(12);
        String variable = seen.isEmpty() || random.nextInt(12) == 0 ? "s20" : "s" + seen.get(random.nextInt(seen.size()));
        if (kind < 6 || depth > 2) return variable;
        if (kind == 6) return random.nextBoolean() ? String.valueOf(1 + random.nextInt(3)) : "(s1 #f 1)";
        if (kind == 7) return "(s2 () " + variable + ")";
        if (kind < 10) return "(s1 " + value(depth + 1) + " " + value(depth + 1) + " " + value(depth + 1) + ")";
        if (kind == 10) return "(s5 " + value(depth + 1) + " " + variable + ")";
        return random.nextInt(3) == 0 ? "(s5 " + setting() + " " + variable + ")" : "#f";
    }

    /** Lays a program by calls, in both. */
    static final class Layer {
        private final WindwardScheme x;
        private final PlainScheme plain;
        private final String program;
        private int place;

        Layer(WindwardScheme x, PlainScheme plain, String program) {
            this.x = x;
            this.plain = plain;
            this.program = program;
        }

        int lay() {
            while (program.charAt(place) == ' ') place++;
            if (program.charAt(place) != '(') {
                int start = place;
                while (place < program.length() && " ()".indexOf(program.charAt(place)) < 0) place++;
                String atom = program.substring(start, place);
                if (atom.startsWith("#")) {
                    plain.truth(atom.equals("#t"));
                    return x.truth(atom.equals("#t"));
                }
                if (atom.startsWith("s")) {
                    plain.symbol(Integer.parseInt(atom.substring(1)));
                    return x.symbol(Integer.parseInt(atom.substring(1)));
                }
                plain.number(Integer.parseInt(atom), 1);
                return x.number(Integer.parseInt(atom), 1);
            }
            place++;
            List<Integer> parts = new ArrayList<>();
            int end = -1;
            while (true) {
                while (program.charAt(place) == ' ') place++;
                if (program.charAt(place) == ')') break;
                boolean isDot = program.startsWith(". ", place);
                place += isDot ? 2 : 0;
                if (isDot) end = lay();
                else parts.add(lay());
            }
            place++;
            plain.empty();
            int list = x.empty();
            list = end < 0 ? list : end;
            for (int i = parts.size() - 1; i >= 0; i--) {
                plain.pair(parts.get(i), list);
                list = x.pair(parts.get(i), list);
            }
            return list;
        }
    }
}
