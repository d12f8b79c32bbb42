import java.util.ArrayList;
import java.util.List;
import java.util.Random;
import java.util.concurrent.atomic.AtomicInteger;

/**
 * Endless runs made at random: procedures with up to 30 variables, perhaps a rest, within others, set some variables and
 * call themselves with values and procedures, behind values that wait, within winds, handlers, prompts and continuations.
 * None may end, and each call comes back within some seconds. Arguments: how many programs, the first seed.
 */
public final class EndlessRuns {
    private static final int[] NAMES = {11, 12, 13, 15, 17, 18, 19, 25, 27, 29, 31, 32, 33, 34, 35, 36, 37, 38, 39, 40, 41,
        42, 43, 44, 45, 46, 47, 48, 49, 50, 51, 52, 53, 54, 55, 56, 57, 58, 59};
    private static final double MOST_SECONDS = 60;
    private static final int MOST_ROOM = 5500000; // with more of it, a program is told

    private final Random random;
    private final List<Integer> seen = new ArrayList<>(); // variables that are bound around
    private final List<Integer> settable = new ArrayList<>();

    private EndlessRuns(long seed) {
        random = new Random(seed);
    }

    public static void main(String[] args) throws Exception {
        int count = args.length > 0 ? Integer.parseInt(args[0]) : 40;
        long first = args.length > 1 ? Long.parseLong(args[1]) : 1;
        int calls = args.length > 2 ? Integer.parseInt(args[2]) : 505;
        AtomicInteger next = new AtomicInteger();
        AtomicInteger wrong = new AtomicInteger();
        List<Thread> threads = new ArrayList<>();
        for (int i = 0; i < 3; i++) {
            threads.add(new Thread(null, () -> {
                for (int n = next.getAndIncrement(); n < count; n = next.getAndIncrement()) {
                    String fault = new EndlessRuns(first + n).fault(calls);
                    if (fault != null) {
                        wrong.incrementAndGet();
                        System.out.println("seed " + (first + n) + ": " + fault);
                    }
                }
            }, "runs", 1 << 26));
            threads.get(i).start();
        }
        for (Thread thread : threads) thread.join();
        System.out.println(wrong.get() == 0 ? "no endless run ended" : wrong.get() + " runs are not as due");
        if (wrong.get() != 0) System.exit(1);
    }

    private String fault(int calls) {
        WindwardScheme x = new WindwardScheme();
        String program = program();
        begin(x, "(s3 s30 0)");
        x.run(1);
        begin(x, program);
        if (x.run(500) != 'v') return "not defined: " + program;
        seen.clear();
        String start = "(s30" + values(arguments) + ")";
        begin(x, start);
        double worst = 0;
        double all = 0;
        for (int i = 0; i < calls; i++) {
            long begun = System.nanoTime();
            char state = x.run(500);
            double seconds = (System.nanoTime() - begun) / 1e9;
            worst = Math.max(worst, seconds);
            all += seconds;
            if (state != 'r') return "call " + i + " answered " + state + (state == 'e' ? " " + x.error() : "") + ": " + program + " " + start;
            if (seconds > MOST_SECONDS) return "call " + i + " took " + seconds + " s: " + program + " " + start;
        }
        try {
            long room = RoomTests.elements(x);
            boolean isNoted = room > MOST_ROOM || worst > 2 || all > 20;
            if (isNoted) System.out.println("room " + room + ", worst " + worst + ", all " + all + ": " + program + " " + start);
        } catch (IllegalAccessException e) {
            return "no room: " + e;
        }
        return null;
    }

    private int arguments;

    private String values(int count) {
        StringBuilder text = new StringBuilder();
        for (int i = 0; i < count; i++) text.append(' ').append(value(0));
        return text.toString();
    }

    /** A procedure s30 that never ends. */
    private String program() {
        List<Integer> names = new ArrayList<>();
        for (int name : NAMES) names.add(name);
        java.util.Collections.shuffle(names, random);
        int levels = random.nextInt(3) == 0 ? random.nextInt(9) : random.nextInt(3);
        StringBuilder open = new StringBuilder();
        StringBuilder close = new StringBuilder();
        settable.add(20);
        settable.add(21);
        for (int i = 0; i < levels; i++) {
            int count = 1 + random.nextInt(2);
            open.append("((s2 (");
            for (int j = 0; j < count; j++) {
                int name = names.remove(names.size() - 1);
                open.append(" s").append(name);
                seen.add(name);
                settable.add(name);
            }
            open.append(") ");
            close.insert(0, ")" + " 1".repeat(count) + ")");
        }
        boolean hasRest = random.nextInt(3) == 0;
        int parameters = Math.min(names.size() - 2, random.nextInt(3) == 0 ? random.nextInt(31) : random.nextInt(6));
        StringBuilder list = new StringBuilder();
        for (int i = 0; i < parameters; i++) {
            int name = names.remove(names.size() - 1);
            list.append(" s").append(name);
            seen.add(name);
            settable.add(name);
        }
        arguments = parameters;
        String bound = "(" + list + ")";
        if (hasRest) {
            int name = names.remove(names.size() - 1);
            bound = parameters == 0 ? "s" + name : "(" + list + " . s" + name + ")";
            seen.add(name);
            settable.add(name);
            arguments += random.nextInt(3) == 0 ? random.nextInt(40) : random.nextInt(4);
        }
        extra = names.remove(names.size() - 1);
        return "(s4 s30 " + open + "(s2 " + bound + " " + body() + ")" + close + ")";
    }

    private int extra;

    private String body() {
        StringBuilder text = new StringBuilder();
        int settings = random.nextInt(3) == 0 ? 0 : random.nextInt(2) == 0 ? random.nextInt(4) : random.nextInt(11);
        boolean isSame = random.nextBoolean();
        for (int i = 0; i < settings; i++) {
            String set = setting();
            boolean isChoice = !isSame && random.nextInt(3) == 0;
            text.append(isChoice ? "(s1 " + value(0) + " " + set + " " + setting() + ")" : set).append(' ');
        }
        String call = "(s30" + values(arguments) + ")";
        if (random.nextInt(6) == 0) call = "(s24 s30 " + listOf(arguments) + ")";
        int waiting = random.nextInt(3) == 0 ? 0 : random.nextInt(2) == 0 ? random.nextInt(4) : random.nextInt(41);
        for (int i = random.nextInt(3); i > 0; i--) call = around(call);
        if (waiting > 0) {
            StringBuilder form = new StringBuilder("(");
            for (int i = 0; i < waiting; i++) form.append(value(0)).append(' ');
            call = form + call + (random.nextBoolean() ? ")" : " " + value(0) + ")");
        }
        if (random.nextInt(5) == 0) call = around(call);
        return text + call;
    }

    private String listOf(int count) {
        return count == 0 ? "(s0 ())" : "((s2 s" + extra + " s" + extra + ")" + values(count) + ")";
    }

    private String setting() {
        int target = settable.get(random.nextInt(settable.size()));
        return "(s4 s" + target + " " + value(0) + ")";
    }

    private String around(String call) {
        switch (random.nextInt(8)) {
            case 0:
                return "(s23 (s2 () " + value(1) + ") (s2 () " + call + ") (s2 () 1))";
            case 1:
                return "(s28 (s2 (s" + extra + ") " + value(1) + ") (s2 () " + call + "))";
            case 2:
                return "(s26 (s2 () " + call + ") (s2 (s" + extra + ") s" + extra + "))";
            case 3:
                return "(s22 (s2 (s" + extra + ") " + (random.nextBoolean() && !seen.isEmpty() ? setting(extra) : "") + call + "))";
            case 4:
                return "(s5 " + call + " " + value(1) + ")";
            case 5:
                return "(s1 " + call + " 1 " + value(1) + ")";
            case 6:
                return "((s2 () " + setting() + " " + call + "))";
            default:
                return "(s4 s" + settable.get(random.nextInt(settable.size())) + " " + call + ")";
        }
    }

    private String setting(int value) {
        return "(s4 s" + settable.get(random.nextInt(settable.size())) + " s" + value + ") ";
    }

    private String value(int depth) {
        int kind = random.nextInt(10);
        String variable = seen.isEmpty() || random.nextInt(12) == 0 ? "s20" : "s" + seen.get(random.nextInt(seen.size()));
        if (kind < 4 || depth > 1) return variable;
        if (kind < 7) return String.valueOf(1 + random.nextInt(9));
        if (kind == 7) return "(s2 () " + variable + ")";
        if (kind == 8) return "(s1 " + variable + " " + value(depth + 1) + " " + value(depth + 1) + ")";
        return "(s5 1 " + variable + ")";
    }

    private static int begin(WindwardScheme x, String program) {
        return x.begin(new Layer(x, program).lay());
    }

    /** Lays a program by calls. */
    private static final class Layer {
        private final WindwardScheme x;
        private final String program;
        private int place;

        Layer(WindwardScheme x, String program) {
            this.x = x;
            this.program = program;
        }

        int lay() {
            while (program.charAt(place) == ' ') place++;
            if (program.charAt(place) != '(') {
                int start = place;
                while (place < program.length() && " ()".indexOf(program.charAt(place)) < 0) place++;
                String atom = program.substring(start, place);
                return atom.startsWith("s") ? x.symbol(Integer.parseInt(atom.substring(1))) : x.number(Integer.parseInt(atom), 1);
            }
            place++;
            List<Integer> parts = new ArrayList<>();
            int end = -1;
            while (true) {
                while (program.charAt(place) == ' ') place++;
                if (program.charAt(place) == ')') break;
                boolean isDot = program.startsWith(". ", place);
                place += isDot ? 2 : 0;
                if (isDot) end = lay();
                else parts.add(lay());
            }
            place++;
            int list = end < 0 ? x.empty() : end;
            for (int i = parts.size() - 1; i >= 0; i--) list = x.pair(parts.get(i), list);
            return list;
        }
    }
}
