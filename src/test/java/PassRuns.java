import java.util.ArrayList;
import java.util.List;
import java.util.Random;
import java.util.concurrent.atomic.AtomicInteger;

/**
 * Bodies that are come back to one behind the other, without an application between them, set variables of their own and of
 * procedures around by what came out, by tests and by one another; a continuation enters them again, with winds that are left
 * on the way. Values that waited ahead of a round are looked at behind another one, and variables of single bodies by
 * procedures that were kept. WindwardScheme and PlainScheme must come to the same. Arguments: how many programs, the first
 * seed, how many bodies at most.
 */
public final class PassRuns {
    private static final double MOST_SECONDS = 60;

    private final Random random;
    private final List<String> own = new ArrayList<>(); // variables that are bound around
    private final List<String> all = new ArrayList<>(); // and global ones

    private PassRuns(long seed) {
        random = new Random(seed);
    }

    public static void main(String[] args) throws Exception {
        int count = args.length > 0 ? Integer.parseInt(args[0]) : 120;
        long first = args.length > 1 ? Long.parseLong(args[1]) : 1;
        int bodies = args.length > 2 ? Integer.parseInt(args[2]) : 300;
        AtomicInteger next = new AtomicInteger();
        AtomicInteger wrong = new AtomicInteger();
        List<Thread> threads = new ArrayList<>();
        for (int i = 0; i < 3; i++) {
            threads.add(new Thread(null, () -> {
                for (int n = next.getAndIncrement(); n < count; n = next.getAndIncrement()) {
                    String fault = new PassRuns(first + n).fault(bodies);
                    if (fault != null) {
                        wrong.incrementAndGet();
                        System.out.println("seed " + (first + n) + ": " + fault);
                    }
                }
            }, "runs", 1 << 26));
            threads.get(i).start();
        }
        for (Thread thread : threads) thread.join();
        System.out.println(wrong.get() == 0 ? "all passes come to what is due" : wrong.get() + " runs are not as due");
        if (wrong.get() != 0) System.exit(1);
    }

    private String fault(int most) {
        int bodies = 2 + random.nextInt(random.nextBoolean() ? most : 20);
        String[] globals = {"s40", "s41", "s42", "s43"};
        for (String name : globals) all.add(name);
        List<String> programs = new ArrayList<>(List.of("(s3 s12 0)", "(s3 s19 0)", "(s3 s27 0)", "(s3 s58 (s0 ()))", "(s3 s57 #f)", "(s3 s30 1)",
            // s13 adds to s19 what two values are, and gives the third.
            "(s3 s13 (s2 (s31 s32 s33) (s4 s19 (s10 s19 (s1 (s21 s31 s32) 2 (s1 s31 1 0)))) (s1 (s14 s19 400000000) s33 (s5 (s4 s19 1) s33))))",
            // s56 looks at what was kept of the bodies: so many of them.
            "(s3 s56 (s2 (s31 s32) (s1 (s20 s31) 1 (s1 (s15 s32 0) 1 (s5 (s13 ((s17 s31)) s40 1) (s56 (s18 s31) (s11 s32 1)))))))"));
        for (String name : globals) programs.add("(s3 " + name + " " + (1 + random.nextInt(3)) + ")");
        programs.add(procedure());
        int rounds = 1 + random.nextInt(4);
        String check = "(s13 s40 s41 (s13 s42 s43 1))";
        String values = values(parameters);
        own.clear();
        // A round: all is looked at; then perhaps what waited ahead of the round before; then the continuation is entered again.
        String jump = "(s12 (s10 s27 1))";
        for (int i = random.nextInt(3); i > 0; i--) {
            // Bodies of an after are come back to just ahead of those where the jump arrives.
            String inner = "((s2 () " + statements(2) + value(0) + "))";
            String after = "(s4 s41 " + (random.nextBoolean() ? inner : "((s2 () " + statements(1) + inner + " " + value(0) + "))") + ") " + statements(2);
            jump = "(s23 (s2 () 1) (s2 () " + jump + ") (s2 () " + after + "))";
        }
        String again = "(s1 (s14 s27 " + rounds + ") (s5 (s4 s27 (s10 s27 1)) (s4 s40 (s25 s40)) " + jump + ") 1)";
        String back = "(s22 (s2 (s8) ((s2 (s9) (s4 s57 s8) (s1 s9 (s5 (s4 s57 #f) (s9 s27)) " + again + ")) s57)))";
        String look = "(s13 s40 s41 (s13 s42 s43 (s13 s43 s40 " + back + ")))";
        programs.add("(s5 (s4 s40 (s30 " + bodies + values + ")) " + check + " " + look + " (s56 s58 40) " + again + ")");
        programs.add("(s5 (s56 s58 400) s19)");
        WindwardScheme x = new WindwardScheme();
        PlainScheme plain = new PlainScheme();
        for (String program : programs) {
            x.begin(new DeepRuns.Layer(x, plain, program).lay());
            plain.begin(plain.data() - 1);
            String fault = step(x, plain);
            if (fault != null) return fault + " of " + String.join(" ", programs);
        }
        if (x.state() == 'e') return "ended with " + x.error() + ": " + String.join(" ", programs);
        return null;
    }

    private static String step(WindwardScheme x, PlainScheme plain) {
        for (int i = 0; i < 400 && plain.state() == 'r'; i++) {
            long begun = System.nanoTime();
            char state = x.run(500);
            double seconds = (System.nanoTime() - begun) / 1e9;
            if (seconds > MOST_SECONDS) return "a call took " + seconds + " s";
            char due = plain.run(500);
            if (state != due) return "state " + state + (state == 'e' ? " " + x.error() : "") + ", due is " + due;
        }
        if (x.applications() != plain.applications()) return "applications " + x.applications() + ", due is " + plain.applications();
        if (x.entered() != plain.entered() || x.left() != plain.left()) return "winds entered or left";
        if (x.state() == 'v' && (x.valueKind() != plain.valueKind() || x.valueKind() == 'n' && x.valueAmount() != plain.valueAmount())) {
            return "value " + (x.valueKind() == 'n' ? x.valueAmount() + ", due is " + plain.valueAmount() : "another kind");
        }
        return null;
    }

    private int parameters;

    /** The procedure s30, perhaps within others, that calls itself, and does something behind that. */
    private String procedure() {
        StringBuilder open = new StringBuilder();
        StringBuilder close = new StringBuilder();
        int name = 44;
        for (int i = random.nextInt(3); i > 0; i--, name++) {
            bind("s" + name);
            open.append("((s2 (s").append(name).append(") ");
            close.append(") ").append(random.nextInt(3)).append(")");
        }
        parameters = 1 + random.nextInt(3);
        StringBuilder bound = new StringBuilder();
        for (int i = 0; i < parameters; i++, name++) {
            bind("s" + name);
            bound.append(" s").append(name);
        }
        StringBuilder body = new StringBuilder();
        String first = own.get(own.size() - 1 - random.nextInt(parameters));
        if (random.nextInt(3) > 0) body.append("(s4 s58 (s16 (s2 () ").append(first).append(") s58)) ");
        body.append(statements(1));
        String call = "(s1 (s15 s9 0) (s22 (s2 (s8) (s4 s12 s8) " + value(0) + ")) (s30 (s11 s9 1)" + values(parameters) + "))";
        int before = own.size();
        for (int i = random.nextInt(4); i > 0 && name < 55; i--, name++) call = around(call, "s" + name);
        while (own.size() > before) all.remove(own.remove(own.size() - 1));
        call = taken(call);
        return "(s4 s30 " + open + "(s2 (s9" + bound + ") " + body + call + " " + statements(3) + value(0) + ")" + close + ")";
    }

    private void bind(String name) {
        own.add(name);
        all.add(name);
    }

    /** A form that takes what comes out of another one. */
    private String taken(String call) {
        switch (random.nextInt(5)) {
            case 0: return "(s4 " + variable() + " " + call + ")";
            case 1: return "(s1 " + call + " " + statement(1) + " " + statement(1) + ")";
            case 2: return "(s5 " + call + " " + statements(2) + ")";
            case 3: return "(s4 " + variable() + " (s5 " + call + " " + statement(1) + " " + value(0) + "))";
            default: return "(s4 " + variable() + " (s1 " + call + " " + value(0) + " " + value(0) + "))";
        }
    }

    /** A procedure, a wind, a handler or a prompt around a form, with something behind it. */
    private String around(String call, String name) {
        switch (random.nextInt(7)) {
            case 0:
                return "(s23 (s2 () " + statement(1) + ") (s2 () " + call + ") (s2 () " + statements(2) + value(0) + "))";
            case 1:
                return "(s26 (s2 () " + taken(call) + ") (s2 (s8) s8))";
            case 2:
                return "(s28 (s2 (s8) s8) (s2 () " + taken(call) + " " + value(0) + "))";
            case 3:
                return "((s2 () " + taken(call) + " " + statements(2) + value(0) + "))";
            case 4:
                return "(s24 (s2 () " + taken(call) + " " + statements(2) + ") (s0 ()))";
            default:
                String given = value(0);
                bind(name);
                return "((s2 (" + name + ") " + taken(call) + " " + statements(2) + name + ") " + given + ")";
        }
    }

    private String values(int count) {
        StringBuilder text = new StringBuilder();
        for (int i = 0; i < count; i++) text.append(' ').append(value(0));
        return text.toString();
    }

    private String statements(int most) {
        StringBuilder text = new StringBuilder();
        for (int i = random.nextInt(most + 1); i > 0; i--) text.append(statement(0)).append(' ');
        return text.append("1 ").toString();
    }

    private String statement(int depth) {
        int kind = random.nextInt(6);
        if (kind < 4 || depth > 2) return "(s4 " + variable() + " " + value(depth + 1) + ")";
        if (kind == 4) return "(s1 " + value(depth + 1) + " " + statement(depth + 1) + " " + statement(depth + 1) + ")";
        return "(s5 " + statement(depth + 1) + " " + statement(depth + 1) + ")";
    }

    private String variable() {
        boolean isOwn = !own.isEmpty() && random.nextInt(3) > 0;
        return isOwn ? own.get(random.nextInt(own.size())) : all.get(random.nextInt(all.size()));
    }

    private String value(int depth) {
        int kind = random.nextInt(10);
        if (kind < 6 || depth > 2) return own.isEmpty() && depth == 0 ? String.valueOf(1 + random.nextInt(3)) : variable();
        if (kind == 6) return random.nextBoolean() ? String.valueOf(1 + random.nextInt(3)) : "#f";
        if (kind == 7) return "(s2 () " + variable() + ")";
        if (kind == 8) return "(s1 " + value(depth + 1) + " " + value(depth + 1) + " " + value(depth + 1) + ")";
        return "(s5 " + statement(depth + 1) + " " + value(depth + 1) + ")";
    }
}
