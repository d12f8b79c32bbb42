import java.util.ArrayList;
import java.util.HashMap;
import java.util.IdentityHashMap;
import java.util.LinkedHashMap;
import java.util.List;
import java.util.Map;
import java.util.NoSuchElementException;

/**
 * The document once more, in plain objects, without regard to room, to LANGUAGE.md or to speed. RandomRuns holds the
 * answers of WindwardScheme against the answers of this one.
 */
public final class PlainScheme {
    // ---- data

    record Num(long top, long bottom) {}

    record Sym(int number) {}

    record Renamed(Object under, int mark) {}

    record Prim(int symbol) {}

    static final class Pair {
        final Object first;
        final Object rest;
        final int depth;
        final int size;

        Pair(Object first, Object rest) {
            this.first = first;
            this.rest = rest;
            depth = Math.max(depthOf(first) + 1, depthOf(rest));
            size = Math.min(1000000, sizeOf(first) + sizeOf(rest) + 1);
        }
    }

    static final Object EMPTY = new Object();
    static final Object NOTHING = new Object();

    static int depthOf(Object datum) {
        return datum instanceof Pair p ? p.depth : 1;
    }

    static int sizeOf(Object datum) {
        return datum instanceof Pair p ? p.size : 1;
    }

    static final class Wrong extends RuntimeException {
        Wrong() {
            super(null, null, false, false);
        }
    }

    static final class Stop extends RuntimeException {
        final char letter;

        Stop(char letter) {
            super(null, null, false, false);
            this.letter = letter;
        }
    }

    static Num num(long top, long bottom) {
        if (bottom == 0) return null;
        java.math.BigInteger a = java.math.BigInteger.valueOf(top);
        java.math.BigInteger b = java.math.BigInteger.valueOf(bottom);
        java.math.BigInteger g = a.gcd(b);
        if (b.signum() < 0) g = g.negate();
        a = a.divide(g);
        b = b.divide(g);
        java.math.BigInteger most = java.math.BigInteger.valueOf(1000000000);
        if (a.abs().compareTo(most) > 0 || b.compareTo(most) > 0) return null;
        return new Num(a.longValue(), b.longValue());
    }

    static boolean same(Object a, Object b) {
        if (a instanceof Pair || a instanceof Closure || a instanceof Cont) return a == b;
        return a.equals(b);
    }

    private final List<Object> laid = new ArrayList<>();
    private final List<int[]> parts = new ArrayList<>();
    private String text = "";
    private final char[] meanings = new char[60];
    private final Object[] contents = new Object[60];

    public PlainScheme() {
        java.util.Arrays.fill(meanings, '-');
        for (int i = 0; i <= 6; i++) meanings[i] = 'k';
        for (int i = 10; i <= 29; i++) {
            meanings[i] = 'v';
            contents[i] = new Prim(i);
        }
    }

    private int lay(Object datum, int first, int rest) {
        if (laid.size() >= 3000) throw new IllegalStateException();
        laid.add(datum);
        parts.add(new int[] {first, rest});
        return laid.size() - 1;
    }

    private Object datum(int number) {
        if (number < 0 || number >= laid.size()) throw new IndexOutOfBoundsException();
        return laid.get(number);
    }

    public int number(int numerator, int denominator) {
        Num made = num(numerator, denominator);
        if (made == null) throw new IllegalArgumentException();
        return lay(made, -1, -1);
    }

    public int symbol(int symbol) {
        if (symbol < 0 || symbol > 59) throw new IllegalArgumentException();
        return lay(new Sym(symbol), -1, -1);
    }

    public int truth(boolean isTrue) {
        return lay(isTrue, -1, -1);
    }

    public int empty() {
        return lay(EMPTY, -1, -1);
    }

    public int pair(int first, int rest) {
        Pair made = new Pair(datum(first), datum(rest));
        if (made.depth > 60 || made.size > 3000) throw new IllegalStateException();
        return lay(made, first, rest);
    }

    public int data() {
        return laid.size();
    }

    static char kindOf(Object value) {
        if (value instanceof Num) return 'n';
        if (value instanceof Sym) return 's';
        if (value instanceof Boolean) return 't';
        if (value == EMPTY) return 'e';
        if (value instanceof Pair) return 'p';
        if (value instanceof Closure) return 'c';
        if (value instanceof Prim) return 'f';
        if (value instanceof Cont) return 'k';
        return 'u';
    }

    public char kind(int number) {
        return kindOf(datum(number));
    }

    public int part(int number, boolean isFirst) {
        if (!(datum(number) instanceof Pair)) throw new UnsupportedOperationException();
        return parts.get(number)[isFirst ? 0 : 1];
    }

    public long amount(int number) {
        Object datum = datum(number);
        if (datum instanceof Num n) return n.top;
        if (datum instanceof Sym s) return s.number;
        if (datum instanceof Boolean b) return b ? 1 : 0;
        throw new UnsupportedOperationException();
    }

    public double asDouble(int number) {
        if (datum(number) instanceof Num n) return (double) n.top / (double) n.bottom;
        throw new UnsupportedOperationException();
    }

    public boolean areAlike(int number, int other) {
        Object a = datum(number);
        return alike(a, datum(other));
    }

    private static boolean alike(Object a, Object b) {
        if (a instanceof Pair p && b instanceof Pair q) return alike(p.first, q.first) && alike(p.rest, q.rest);
        return same(a, b);
    }

    // ---- text

    private int put(String written) {
        if (written.length() > 500) throw new UnsupportedOperationException();
        text = written;
        return text.length();
    }

    private static void show(Object value, StringBuilder to) {
        if (to.length() > 600) return;
        if (value instanceof Num n) {
            to.append(n.top);
            if (n.bottom != 1) to.append("/").append(n.bottom);
        } else if (value instanceof Sym s) {
            to.append("s").append(s.number);
        } else if (value instanceof Boolean b) {
            to.append(b ? "#t" : "#f");
        } else if (value == EMPTY) {
            to.append("()");
        } else if (value instanceof Pair p) {
            to.append("(");
            show(p.first, to);
            Object rest = p.rest;
            while (rest instanceof Pair q && to.length() <= 600) {
                to.append(" ");
                show(q.first, to);
                rest = q.rest;
            }
            if (rest != EMPTY) {
                to.append(" . ");
                show(rest, to);
            }
            to.append(")");
        } else if (value instanceof Closure) {
            to.append("#c");
        } else if (value instanceof Cont) {
            to.append("#k");
        } else if (value instanceof Prim p) {
            to.append("#p").append(p.symbol);
        } else {
            to.append("#u");
        }
    }

    private static String shown(Object value) {
        StringBuilder to = new StringBuilder();
        show(value, to);
        return to.toString();
    }

    public int write(int number) {
        return put(shown(datum(number)));
    }

    public int writeExpanded(int number) {
        Object datum = datum(number);
        Node node;
        try {
            node = new Expansion().form(datum, null, 0);
        } catch (Wrong e) {
            throw new IllegalArgumentException();
        }
        return put(node.show());
    }

    public char charAt(int index) {
        if (index < 0 || index >= text.length()) throw new IndexOutOfBoundsException();
        return text.charAt(index);
    }

    public int type(char character) {
        if (character < 32 || character > 126) throw new IllegalArgumentException();
        if (text.length() == 500) throw new IllegalStateException();
        text += character;
        return text.length();
    }

    public int clear() {
        int length = text.length();
        text = "";
        return length;
    }

    /** A tree of what is read: an atom, or a list with its parts and its end (null for the empty list). */
    private static final class Read {
        Object atom;
        List<Read> items;
        Read end;

        int depth() {
            if (items == null) return 1;
            int depth = end == null ? 1 : end.depth();
            for (Read r : items) depth = Math.max(depth, r.depth() + 1);
            return depth;
        }

        int count() {
            if (items == null) return 1;
            int count = end == null ? 1 : end.count();
            for (Read r : items) count += r.count() + 1;
            return count;
        }
    }

    private final class Source {
        final List<String> tokens = new ArrayList<>();
        int next;

        Source() {
            java.util.regex.Matcher m = java.util.regex.Pattern.compile("[()]|[^ ()]+").matcher(text);
            while (m.find()) tokens.add(m.group());
        }

        String peek() {
            return next < tokens.size() ? tokens.get(next) : "";
        }

        Read one() {
            String token = peek();
            next++;
            Read made = new Read();
            if (token.equals("(")) {
                made.items = new ArrayList<>();
                while (!peek().equals(")")) {
                    if (peek().equals(".")) {
                        next++;
                        if (made.items.isEmpty()) throw new IllegalArgumentException();
                        made.end = one();
                        if (!peek().equals(")")) throw new IllegalArgumentException();
                    } else {
                        made.items.add(one());
                    }
                }
                next++;
            } else {
                made.atom = atom(token);
            }
            return made;
        }

        Object atom(String token) {
            if (token.equals("#t")) return true;
            if (token.equals("#f")) return false;
            if (token.matches("s[0-9]{1,18}") && Long.parseLong(token.substring(1)) < 60) {
                return new Sym(Integer.parseInt(token.substring(1).replaceFirst("^0+(?=.)", "")));
            }
            if (token.matches("-?[0-9]{1,18}(/[0-9]{1,18})?")) {
                String[] both = token.split("/");
                Num made = num(Long.parseLong(both[0]), both.length > 1 ? Long.parseLong(both[1]) : 1);
                if (made != null) return made;
            }
            throw new IllegalArgumentException();
        }
    }

    public int read() {
        Source source = new Source();
        Read read = source.one();
        if (source.next != source.tokens.size() || read.depth() > 60) throw new IllegalArgumentException();
        if (laid.size() + read.count() > 3000) throw new IllegalStateException();
        return layRead(read);
    }

    private int layRead(Read read) {
        if (read.items == null) return lay(read.atom, -1, -1);
        List<Integer> numbers = new ArrayList<>();
        for (Read r : read.items) numbers.add(layRead(r));
        int list = read.end == null ? empty() : layRead(read.end);
        for (int i = numbers.size() - 1; i >= 0; i--) list = pair(numbers.get(i), list);
        return list;
    }

    // ---- expansion

    static final class Scope {
        final Object name;
        final Scope around;
        final int number;

        Scope(Object name, Scope around, int number) {
            this.name = name;
            this.around = around;
            this.number = number;
        }
    }

    static Scope bound(Object name, Scope scope) {
        for (Scope s = scope; s != null; s = s.around) if (s.name.equals(name)) return s;
        return null;
    }

    static boolean isName(Object datum) {
        return datum instanceof Sym || datum instanceof Renamed;
    }

    static int symbolOf(Object name) {
        while (name instanceof Renamed r) name = r.under;
        return name instanceof Sym s ? s.number : -1;
    }

    static List<Object> list(Object datum) {
        List<Object> items = new ArrayList<>();
        while (datum instanceof Pair p) {
            items.add(p.first);
            datum = p.rest;
        }
        return datum == EMPTY ? items : null;
    }

    /** Code: what it is, by the words of the document. */
    static final class Node {
        String what;
        Object datum;
        Scope variable;
        int symbol;
        List<Node> parts = new ArrayList<>();
        List<Scope> parameters;
        Scope rest;

        Node(String what) {
            this.what = what;
        }

        String show() {
            StringBuilder to = new StringBuilder();
            switch (what) {
                case "self":
                    return shown(datum);
                case "quote":
                    return "(quote " + shown(datum) + ")";
                case "local":
                    return "x" + variable.number;
                case "global":
                    return "s" + symbol;
                case "define-syntax":
                    return "(define-syntax s" + symbol + ")";
                case "lambda":
                    to.append("(lambda ");
                    if (parameters.isEmpty() && rest != null) {
                        to.append("x").append(rest.number);
                    } else {
                        String gap = "(";
                        if (parameters.isEmpty()) to.append("(");
                        for (Scope s : parameters) {
                            to.append(gap).append("x").append(s.number);
                            gap = " ";
                        }
                        if (rest != null) to.append(" . x").append(rest.number);
                        to.append(")");
                    }
                    break;
                case "set":
                    to.append("(set ").append(variable != null ? "x" + variable.number : "s" + symbol);
                    break;
                case "define":
                    to.append("(define s").append(symbol);
                    break;
                case "call":
                    to.append("(");
                    break;
                default:
                    to.append("(").append(what);
            }
            boolean isFirst = what.equals("call");
            for (Node n : parts) {
                if (!isFirst) to.append(" ");
                isFirst = false;
                to.append(n.show());
            }
            return to.append(")").toString();
        }
    }

    record Rule(Object pattern, Object template) {}

    record Macro(List<Integer> literals, List<Rule> rules) {}

    record Rows(List<Object> items) {}

    static int marks = 0;

    final class Expansion {
        int used;
        int variables;

        Node form(Object form, Scope scope, int depth) {
            if (depth > 100) throw new Wrong();
            while (form instanceof Pair p
                    && list(form) != null
                    && isName(p.first)
                    && bound(p.first, scope) == null
                    && meanings[symbolOf(p.first)] == 'm') {
                form = expanded((Macro) contents[symbolOf(p.first)], p, scope);
            }
            if (isName(form)) return variable(form, scope);
            if (form instanceof Num || form instanceof Boolean) {
                Node self = new Node("self");
                self.datum = form;
                return self;
            }
            List<Object> items = list(form);
            if (items == null || items.isEmpty()) throw new Wrong();
            Object head = items.get(0);
            if (isName(head) && bound(head, scope) == null && meanings[symbolOf(head)] == 'k') {
                return keyword(symbolOf(head), items, scope, depth, ((Pair) form).rest);
            }
            Node call = new Node("call");
            forms(call, items, scope, depth);
            return call;
        }

        void forms(Node node, List<Object> forms, Scope scope, int depth) {
            for (Object form : forms) node.parts.add(form(form, scope, depth + 1));
        }

        Node variable(Object name, Scope scope) {
            Scope binding = bound(name, scope);
            Node node = new Node(binding != null ? "local" : "global");
            node.variable = binding;
            node.symbol = symbolOf(name);
            if (binding == null && (meanings[node.symbol] == 'k' || meanings[node.symbol] == 'm')) throw new Wrong();
            return node;
        }

        void need(boolean holds) {
            if (!holds) throw new Wrong();
        }

        Node keyword(int keyword, List<Object> items, Scope scope, int depth, Object behindHead) {
            int count = items.size();
            String[] words = {"quote", "if", "lambda", "define", "set", "begin", "define-syntax"};
            Node node = new Node(words[keyword]);
            int from = 1;
            Scope inner = scope;
            switch (node.what) {
                case "quote":
                    need(count == 2);
                    node.datum = plain(items.get(1), new IdentityHashMap<>());
                    return node;
                case "if":
                    need(count == 3 || count == 4);
                    break;
                case "lambda":
                    need(count >= 3);
                    inner = parameters(node, items.get(1), scope);
                    from = 2;
                    break;
                case "define":
                    need(count == 3 && depth == 0 && isName(items.get(1)));
                    node.symbol = symbolOf(items.get(1));
                    from = 2;
                    break;
                case "set":
                    need(count == 3 && isName(items.get(1)));
                    Node target = variable(items.get(1), scope);
                    node.symbol = target.symbol;
                    node.variable = target.variable;
                    from = 2;
                    break;
                case "begin":
                    need(count >= 2);
                    break;
                default:
                    need(count >= 3 && depth == 0 && isName(items.get(1)));
                    node.symbol = symbolOf(items.get(1));
                    node.datum = macro(items);
                    return node;
            }
            forms(node, items.subList(from, count), inner, depth);
            return node;
        }

        Scope parameters(Node node, Object list, Scope scope) {
            List<Object> names = new ArrayList<>();
            node.parameters = new ArrayList<>();
            Scope inner = scope;
            while (list instanceof Pair p) {
                need(isName(p.first) && !names.contains(p.first));
                names.add(p.first);
                inner = new Scope(p.first, inner, variables++);
                node.parameters.add(inner);
                list = p.rest;
            }
            if (list != EMPTY) {
                need(isName(list) && !names.contains(list));
                inner = new Scope(list, inner, variables++);
                node.rest = inner;
            }
            return inner;
        }

        Object plain(Object datum, IdentityHashMap<Object, Object> anew) {
            if (datum instanceof Renamed) return new Sym(symbolOf(datum));
            if (!(datum instanceof Pair p)) return datum;
            if (anew.containsKey(p)) return anew.get(p);
            Object first = plain(p.first, anew);
            Object rest = plain(p.rest, anew);
            Object made = first == p.first && rest == p.rest ? p : new Pair(first, rest);
            anew.put(p, made);
            return made;
        }

        Macro macro(List<Object> items) {
            List<Object> names = list(items.get(2));
            need(names != null);
            List<Integer> literals = new ArrayList<>();
            for (Object name : names) {
                need(isName(name));
                literals.add(symbolOf(name));
            }
            List<Rule> rules = new ArrayList<>();
            for (Object rule : items.subList(3, items.size())) {
                List<Object> both = list(rule);
                need(both != null && both.size() == 2 && both.get(0) instanceof Pair);
                Object pattern = ((Pair) both.get(0)).rest;
                pattern(pattern, literals, new ArrayList<>());
                rules.add(new Rule(pattern, both.get(1)));
            }
            return new Macro(literals, rules);
        }

        void pattern(Object pattern, List<Integer> literals, List<Object> seen) {
            if (isName(pattern)) {
                int symbol = symbolOf(pattern);
                if (symbol == 8 || literals.contains(symbol)) return;
                need(symbol != 7 && !seen.contains(pattern));
                seen.add(pattern);
            } else if (pattern instanceof Pair p) {
                pattern(p.first, literals, seen);
                if (!isRowEnd(p.rest)) pattern(p.rest, literals, seen);
            }
        }

        boolean isRowEnd(Object datum) {
            return datum instanceof Pair p && symbolOf(p.first) == 7 && p.rest == EMPTY;
        }

        Object expanded(Macro macro, Pair form, Scope scope) {
            for (Rule rule : macro.rules) {
                Map<Object, Object> found = new LinkedHashMap<>();
                if (match(rule.pattern, form.rest, macro.literals, scope, found)) {
                    need(used < 200);
                    used++;
                    marks++;
                    Object made = fill(rule.template, found, marks, new int[1]);
                    need(depthOf(made) <= 100 && sizeOf(made) <= 3000);
                    return made;
                }
            }
            throw new Wrong();
        }

        boolean match(Object pattern, Object form, List<Integer> literals, Scope scope, Map<Object, Object> found) {
            if (isName(pattern)) {
                int symbol = symbolOf(pattern);
                if (symbol == 8) return true;
                if (literals.contains(symbol)) {
                    return isName(form) && symbolOf(form) == symbol && bound(form, scope) == null;
                }
                found.put(pattern, form);
                return true;
            }
            if (!(pattern instanceof Pair p)) return same(pattern, form);
            if (!isRowEnd(p.rest)) {
                return form instanceof Pair f
                        && match(p.first, f.first, literals, scope, found)
                        && match(p.rest, f.rest, literals, scope, found);
            }
            List<Object> items = list(form);
            if (items == null) return false;
            List<Object> names = new ArrayList<>();
            pattern(p.first, literals, names);
            for (Object name : names) found.put(name, new Rows(new ArrayList<>()));
            for (Object item : items) {
                Map<Object, Object> inner = new HashMap<>();
                if (!match(p.first, item, literals, scope, inner)) return false;
                for (Object name : names) ((Rows) found.get(name)).items.add(inner.get(name));
            }
            return true;
        }

        void names(Object template, List<Object> to) {
            if (isName(template)) to.add(template);
            if (template instanceof Pair p) {
                names(p.first, to);
                names(p.rest, to);
            }
        }

        Object fill(Object template, Map<Object, Object> found, int mark, int[] steps) {
            need(steps[0]++ < 100000);
            if (isName(template)) {
                if (!found.containsKey(template)) return new Renamed(template, mark);
                need(!(found.get(template) instanceof Rows));
                return found.get(template);
            }
            if (!(template instanceof Pair p)) return template;
            if (!(p.rest instanceof Pair q && symbolOf(q.first) == 7)) {
                return new Pair(fill(p.first, found, mark, steps), fill(p.rest, found, mark, steps));
            }
            List<Object> names = new ArrayList<>();
            names(p.first, names);
            names.removeIf(name -> !(found.get(name) instanceof Rows));
            need(!names.isEmpty());
            int count = ((Rows) found.get(names.get(0))).items.size();
            for (Object name : names) need(((Rows) found.get(name)).items.size() == count);
            List<Object> made = new ArrayList<>();
            for (int i = 0; i < count; i++) {
                Map<Object, Object> inner = new HashMap<>(found);
                for (Object name : names) inner.put(name, ((Rows) found.get(name)).items.get(i));
                made.add(fill(p.first, inner, mark, steps));
            }
            Object whole = fill(q.rest, found, mark, steps);
            for (int i = count - 1; i >= 0; i--) whole = new Pair(made.get(i), whole);
            return whole;
        }
    }

    // ---- running: what is still to be done is a chain of frames, each of which takes a value

    static final class Env {
        final Map<Scope, Object> values = new IdentityHashMap<>();
        final Env around;

        Env(Env around) {
            this.around = around;
        }

        Env holder(Scope variable) {
            Env env = this;
            while (!env.values.containsKey(variable)) env = env.around;
            return env;
        }
    }

    record Closure(Node lambda, Env env) {}

    static final class Handler {
        final Object procedure;
        final Handler around;

        Handler(Object procedure, Handler around) {
            this.procedure = procedure;
            this.around = around;
        }
    }

    static final class Wind {
        Object before;
        Object after;
        Wind around;
        Handler handlers;
    }

    record Cont(Frame frames, Wind winds, Handler handlers) {}

    abstract static class Frame {
        final Frame next;

        Frame(Frame next) {
            this.next = next;
        }

        abstract void take(Object value);
    }

    final class PromptFrame extends Frame {
        final Object handler;
        final Cont place;

        PromptFrame(Frame next, Object handler, Cont place) {
            super(next);
            this.handler = handler;
            this.place = place;
        }

        @Override
        void take(Object value) {
            give(value);
        }
    }

    interface Taker {
        void take(Object value);
    }

    private void push(Taker taker) {
        Frame next = frames;
        frames = new Frame(next) {
            @Override
            void take(Object value) {
                taker.take(value);
            }
        };
    }

    private char status = ' ';
    private char letter;
    private Runnable todo;
    private boolean isApplication;
    private Object value;
    private Frame frames;
    private Wind winds;
    private Handler handlers;
    private long applications;
    private long ofRun;
    private long ofEnded;
    private int expansions;
    private int entered;
    private int left;
    private int jumps;
    private int ended;
    private int endedWithValue;

    private void give(Object given) {
        value = given;
        todo = () -> {
            Frame frame = frames;
            if (frame == null) {
                end('v');
                endedWithValue++;
            } else {
                frames = frame.next;
                frame.take(given);
            }
        };
        isApplication = false;
    }

    private void end(char how) {
        status = how;
        ended++;
        ofEnded += ofRun;
        frames = null;
        handlers = null;
        winds = null;
        todo = null;
    }

    private void fail(char which) {
        end('e');
        letter = which;
    }

    private void eval(Node node, Env env) {
        todo = () -> evalNow(node, env);
        isApplication = false;
    }

    private void body(List<Node> forms, int from, Env env) {
        if (from < forms.size() - 1) push(dropped -> body(forms, from + 1, env));
        eval(forms.get(from), env);
    }

    private void evalNow(Node node, Env env) {
        switch (node.what) {
            case "self":
            case "quote":
                give(node.datum);
                break;
            case "local":
                give(env.holder(node.variable).values.get(node.variable));
                break;
            case "global":
                if (meanings[node.symbol] != 'v') throw new Stop('u');
                give(contents[node.symbol]);
                break;
            case "lambda":
                give(new Closure(node, env));
                break;
            case "if":
                push(test -> {
                    int chosen = test.equals(false) ? 2 : 1;
                    if (chosen < node.parts.size()) eval(node.parts.get(chosen), env);
                    else give(NOTHING);
                });
                eval(node.parts.get(0), env);
                break;
            case "begin":
                body(node.parts, 0, env);
                break;
            case "set":
            case "define":
                push(given -> store(node, env, given));
                eval(node.parts.get(0), env);
                break;
            case "define-syntax":
                meanings[node.symbol] = 'm';
                contents[node.symbol] = node.datum;
                give(NOTHING);
                break;
            default:
                parts(node, 0, new Object[0], env);
        }
    }

    private void store(Node node, Env env, Object given) {
        if (node.what.equals("set") && node.variable != null) {
            env.holder(node.variable).values.put(node.variable, given);
        } else {
            if (node.what.equals("set") && meanings[node.symbol] != 'v') throw new Stop('u');
            meanings[node.symbol] = 'v';
            contents[node.symbol] = given;
        }
        give(NOTHING);
    }

    private void parts(Node node, int index, Object[] done, Env env) {
        if (index == node.parts.size()) {
            apply(done[0], java.util.Arrays.copyOfRange(done, 1, index));
            return;
        }
        push(given -> {
            Object[] more = java.util.Arrays.copyOf(done, index + 1);
            more[index] = given;
            parts(node, index + 1, more, env);
        });
        eval(node.parts.get(index), env);
    }

    private void apply(Object procedure, Object... arguments) {
        todo = () -> applyNow(procedure, arguments);
        isApplication = true;
    }

    private void applyNow(Object procedure, Object[] arguments) {
        applications++;
        ofRun++;
        if (procedure instanceof Closure c) {
            int count = c.lambda.parameters.size();
            if (arguments.length < count || arguments.length > count && c.lambda.rest == null) throw new Stop('a');
            Env env = new Env(c.env);
            for (int i = 0; i < count; i++) env.values.put(c.lambda.parameters.get(i), arguments[i]);
            if (c.lambda.rest != null) {
                Object rest = EMPTY;
                for (int i = arguments.length - 1; i >= count; i--) rest = new Pair(arguments[i], rest);
                env.values.put(c.lambda.rest, rest);
            }
            body(c.lambda.parts, 0, env);
        } else if (procedure instanceof Prim p) {
            int[] counts = {2, 2, 2, 2, 2, 2, 2, 1, 1, 1, 1, 2, 1, 3, 2, 1, 2, 1, 2, 1};
            if (arguments.length != counts[p.symbol - 10]) throw new Stop('a');
            primitive(p.symbol, arguments[0], arguments[arguments.length - 1], arguments);
        } else if (procedure instanceof Cont k) {
            if (arguments.length != 1) throw new Stop('a');
            Object given = arguments[0];
            jump(k, () -> give(given));
        } else {
            throw new Stop('n');
        }
    }

    private void check(boolean holds, char error) {
        if (!holds) throw new Stop(error);
    }

    private Object inRange(Num made) {
        check(made != null, 'o');
        return made;
    }

    private Object reckon(int symbol, Num a, Num b) {
        switch (symbol) {
            case 10:
                return inRange(num(a.top * b.bottom + b.top * a.bottom, a.bottom * b.bottom));
            case 11:
                return inRange(num(a.top * b.bottom - b.top * a.bottom, a.bottom * b.bottom));
            case 12:
                return inRange(num(a.top * b.top, a.bottom * b.bottom));
            case 13:
                check(b.top != 0, 'z');
                return inRange(num(a.top * b.bottom, a.bottom * b.top));
            case 14:
                return a.top * b.bottom < b.top * a.bottom;
            default:
                return a.equals(b);
        }
    }

    private void primitive(int symbol, Object a, Object b, Object[] all) {
        if (symbol <= 15) {
            check(a instanceof Num && b instanceof Num, 't');
            give(reckon(symbol, (Num) a, (Num) b));
            return;
        }
        Handler around = handlers;
        switch (symbol) {
            case 16:
                give(new Pair(a, b));
                break;
            case 17:
                check(a instanceof Pair, 't');
                give(((Pair) a).first);
                break;
            case 18:
                check(a instanceof Pair, 't');
                give(((Pair) a).rest);
                break;
            case 19:
                give(a instanceof Pair);
                break;
            case 20:
                give(a == EMPTY);
                break;
            case 21:
                give(same(a, b));
                break;
            case 22:
                apply(a, new Cont(frames, winds, handlers));
                break;
            case 23:
                wind(all[0], all[1], all[2]);
                break;
            case 24:
                List<Object> items = list(b);
                check(items != null, 't');
                apply(a, items.toArray());
                break;
            case 25:
                give(a.equals(false));
                break;
            case 26:
                frames = new PromptFrame(frames, b, new Cont(frames, winds, handlers));
                apply(a);
                break;
            case 27:
                Frame frame = frames;
                while (frame != null && !(frame instanceof PromptFrame)) frame = frame.next;
                check(frame != null, 'w');
                PromptFrame prompt = (PromptFrame) frame;
                jump(prompt.place, () -> apply(prompt.handler, a));
                break;
            case 28:
                push(given -> {
                    handlers = around;
                    give(given);
                });
                handlers = new Handler(a, around);
                apply(b);
                break;
            default:
                check(around != null, 'h');
                push(given -> {
                    handlers = around;
                    give(given);
                });
                handlers = around.around;
                apply(around.procedure, a);
        }
    }

    private void wind(Object before, Object during, Object after) {
        Wind wind = new Wind();
        wind.before = before;
        wind.after = after;
        wind.around = winds;
        wind.handlers = handlers;
        push(dropped -> {
            winds = wind;
            entered++;
            push(given -> {
                winds = wind.around;
                left++;
                push(droppedToo -> give(given));
                apply(after);
            });
            apply(during);
        });
        apply(before);
    }

    private static List<Wind> path(Wind wind) {
        List<Wind> path = new ArrayList<>();
        for (Wind w = wind; w != null; w = w.around) path.add(0, w);
        return path;
    }

    private void jump(Cont target, Runnable arrival) {
        jumps++;
        List<Wind> from = path(winds);
        List<Wind> to = path(target.winds);
        int common = 0;
        while (common < from.size() && common < to.size() && from.get(common) == to.get(common)) common++;
        jumpOn(target, from, to, from.size() - 1, common, common, arrival);
    }

    /** Leaves from[leaving] down to from[common], then enters to[entering] up to its end. */
    private void jumpOn(
            Cont target, List<Wind> from, List<Wind> to, int leaving, int common, int entering, Runnable arrival) {
        frames = target.frames;
        if (leaving >= common) {
            Wind wind = from.get(leaving);
            winds = wind.around;
            left++;
            handlers = wind.handlers;
            push(dropped -> jumpOn(target, from, to, leaving - 1, common, entering, arrival));
            apply(wind.after);
        } else if (entering < to.size()) {
            Wind wind = to.get(entering);
            handlers = wind.handlers;
            push(dropped -> {
                winds = wind;
                entered++;
                jumpOn(target, from, to, leaving, common, entering + 1, arrival);
            });
            apply(wind.before);
        } else {
            handlers = target.handlers;
            arrival.run();
        }
    }

    public char begin(int number) {
        Object datum = datum(number);
        Expansion expansion = new Expansion();
        Node program = null;
        try {
            program = expansion.form(datum, null, 0);
        } catch (Wrong e) {
            program = null;
        }
        expansions += expansion.used;
        frames = null;
        winds = null;
        handlers = null;
        value = null;
        ofRun = 0;
        status = 'r';
        if (program == null) {
            fail('x');
        } else {
            eval(program, null);
        }
        return status;
    }

    private void begun() {
        if (status == ' ') throw new IllegalStateException();
    }

    public char run(int fuel) {
        begun();
        if (fuel < 1 || fuel > 500) throw new IllegalArgumentException();
        int units = fuel;
        while (status == 'r') {
            if (isApplication) {
                if (units == 0) break;
                units--;
            }
            try {
                Runnable now = todo;
                now.run();
            } catch (Stop stop) {
                fail(stop.letter);
            }
        }
        return status;
    }

    public char state() {
        begun();
        return status;
    }

    private void valued() {
        begun();
        if (status != 'v') throw new NoSuchElementException();
    }

    public char valueKind() {
        valued();
        return kindOf(value);
    }

    public long valueAmount() {
        valued();
        if (value instanceof Num n) return n.top;
        throw new UnsupportedOperationException();
    }

    public int writeValue() {
        valued();
        return put(shown(value));
    }

    public char error() {
        begun();
        if (status != 'e') throw new NoSuchElementException();
        return letter;
    }

    public int winds() {
        begun();
        return path(winds).size();
    }

    public int handlers() {
        begun();
        int count = 0;
        for (Handler h = handlers; h != null; h = h.around) count++;
        return count;
    }

    public int writeGlobal(int symbol) {
        if (symbol < 0 || symbol > 59) throw new IllegalArgumentException();
        if (meanings[symbol] != 'v') throw new NoSuchElementException();
        return put(shown(contents[symbol]));
    }

    public char meaning(int symbol) {
        if (symbol < 0 || symbol > 59) throw new IllegalArgumentException();
        return meanings[symbol];
    }

    // ---- counts

    public long applications() {
        return applications;
    }

    public int expansions() {
        return expansions;
    }

    public int entered() {
        return entered;
    }

    public int left() {
        return left;
    }

    public int jumps() {
        return jumps;
    }

    public float valueShare() {
        if (ended == 0) throw new ArithmeticException();
        return (float) endedWithValue / (float) ended;
    }

    public double meanApplications() {
        if (ended == 0) throw new ArithmeticException();
        return (double) ofEnded / (double) ended;
    }

    public boolean isSound() {
        return true;
    }
}
