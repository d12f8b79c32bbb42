/** For each promise of the document: ordinary inputs, the edges that it names, and wrong inputs. */
public final class PromiseTests {
    private static int wrong;
    private static int promise;

    interface Call {
        Object answer();
    }

    private static void due(String what, Object got, Object want) {
        if (!String.valueOf(got).equals(String.valueOf(want))) {
            wrong++;
            System.out.println("promise " + promise + ": " + what + " answered " + got + ", due is " + want);
        }
    }

    /** The answer of a call, or the short name of what it throws. */
    private static Object of(Call call) {
        try {
            return call.answer();
        } catch (IndexOutOfBoundsException | IllegalStateException | IllegalArgumentException | ArithmeticException
                | UnsupportedOperationException | java.util.NoSuchElementException e) {
            return e.getClass().getSimpleName().replaceAll("[a-z]", "");
        }
    }

    private static final String ARGUMENT = "IAE";
    private static final String STATE = "ISE";
    private static final String INDEX = "IOOBE";
    private static final String ARITHMETIC = "AE";
    private static final String UNSUPPORTED = "UOE";
    private static final String NO_ELEMENT = "NSEE";

    /** Lays a program. Names stand for symbols: keywords, primitives, and a to z from 30 on with a few more. */
    private static int lay(WindwardScheme x, String program) {
        return RoomTests.lay(x, words(program));
    }

    private static final String[] WORDS = {
        "quote", "if", "lambda", "define", "set!", "begin", "define-syntax", "...", "_", "", "+", "-", "*", "/", "<", "=",
        "cons", "car", "cdr", "pair?", "null?", "eq?", "call/cc", "wind", "apply", "not", "prompt", "abort", "handle", "raise"
    };

    private static String words(String program) {
        StringBuilder text = new StringBuilder();
        for (String piece : program.split("(?<=[() ])|(?=[() ])")) {
            String made = piece;
            for (int i = 0; i < WORDS.length; i++) if (piece.equals(WORDS[i])) made = "s" + i;
            if (piece.matches("[a-z]")) made = "s" + (30 + piece.charAt(0) - 'a');
            text.append(made);
        }
        return text.toString();
    }

    private static String text(WindwardScheme x, int length) {
        StringBuilder text = new StringBuilder();
        for (int i = 0; i < length; i++) text.append(x.charAt(i));
        return text.toString();
    }

    private static String typed(WindwardScheme x, String text) {
        x.clear();
        for (int i = 0; i < text.length(); i++) x.type(text.charAt(i));
        return text;
    }

    /** Runs a program up to its end: its value as text, or "error" and the letter, or "running". */
    private static String run(WindwardScheme x, String program) {
        x.begin(lay(x, program));
        for (int i = 0; i < 20 && x.state() == 'r'; i++) x.run(500);
        return outcome(x);
    }

    private static String outcome(WindwardScheme x) {
        if (x.state() == 'e') return "error " + x.error();
        return x.state() == 'v' ? text(x, x.writeValue()) : "running";
    }

    private static void all(String... programsAndLast) {
        WindwardScheme x = new WindwardScheme();
        for (int i = 0; i + 1 < programsAndLast.length; i += 2) {
            due(programsAndLast[i], run(x, programsAndLast[i]), programsAndLast[i + 1]);
        }
        due("sound", x.isSound(), true);
    }

    private static String expanded(WindwardScheme x, String program) {
        int datum = lay(x, program);
        Object length = of(() -> x.writeExpanded(datum));
        return length instanceof Integer n ? text(x, n) : String.valueOf(length);
    }

    private static WindwardScheme with(String... programs) {
        WindwardScheme x = new WindwardScheme();
        for (String program : programs) due(program, run(x, program), "#u");
        return x;
    }

    private static WindwardScheme full() {
        WindwardScheme x = new WindwardScheme();
        for (int i = 0; i < 3000; i++) x.empty();
        return x;
    }

    public static void main(String[] args) {
        promise = 1;
        newObject();
        data();
        texts();
        readings();
        expansions();
        patterns();
        templates();
        quotedMarks();
        running();
        evaluation();
        primitives();
        continuations();
        winds();
        prompts();
        handlers();
        errors();
        globals();
        counts();
        System.out.println(wrong == 0 ? "all promises hold" : wrong + " answers are not as due");
        if (wrong != 0) System.exit(1);
    }

    private static void newObject() {
        promise = 1;
        WindwardScheme x = new WindwardScheme();
        due("data", x.data(), 0);
        due("clear", x.clear(), 0);
        due("charAt", of(() -> x.charAt(0)), INDEX);
        StringBuilder meanings = new StringBuilder();
        for (int i = 0; i < 60; i++) meanings.append(x.meaning(i));
        due("meanings", meanings, "kkkkkkk---" + "v".repeat(20) + "-".repeat(30));
        for (int i = 10; i < 30; i++) {
            due("primitive " + i, text(x, x.writeGlobal(i)), "#p" + i);
        }
        due("applications", x.applications(), 0);
        due("sound", x.isSound(), true);
        due("state", of(x::state), STATE);
    }

    private static void data() {
        WindwardScheme x = new WindwardScheme();
        WindwardScheme y = full();
        promise = 2;
        int lowest = Integer.MIN_VALUE;
        due("number", x.number(6, -4), 0);
        due("its text", text(x, x.write(0)), "-3/2");
        due("0/-7", text(x, x.write(x.number(0, -7))), "0");
        due("lowest", text(x, x.write(x.number(lowest, lowest))), "1");
        due("lowest over 4", text(x, x.write(x.number(lowest, 4))), "-536870912");
        due("most", text(x, x.write(x.number(1000000000, 999999999))), "1000000000/999999999");
        due("least", text(x, x.write(x.number(-1000000000, 1))), "-1000000000");
        due("denominator 0", of(() -> x.number(1, 0)), ARGUMENT);
        due("0/0", of(() -> x.number(0, 0)), ARGUMENT);
        due("too much", of(() -> x.number(1000000001, 1)), ARGUMENT);
        due("too little", of(() -> x.number(1, -1000000001)), ARGUMENT);
        due("too little", of(() -> x.number(-1000000001, 1)), ARGUMENT);
        due("1/lowest", of(() -> x.number(1, lowest)), ARGUMENT);
        due("data", x.data(), 6);
        due("full", of(() -> y.number(1, 1)), STATE);
        due("full and wrong", of(() -> y.number(1, 0)), ARGUMENT);
        promise = 3;
        due("symbol", text(x, x.write(x.symbol(59))), "s59");
        due("symbol 0", text(x, x.write(x.symbol(0))), "s0");
        due("60", of(() -> x.symbol(60)), ARGUMENT);
        due("-1", of(() -> x.symbol(-1)), ARGUMENT);
        due("full", of(() -> y.symbol(1)), STATE);
        due("full and wrong", of(() -> y.symbol(60)), ARGUMENT);
        promise = 4;
        due("true", text(x, x.write(x.truth(true))), "#t");
        due("false", text(x, x.write(x.truth(false))), "#f");
        due("full", of(() -> y.truth(true)), STATE);
        promise = 5;
        due("empty", text(x, x.write(x.empty())), "()");
        due("full", of(y::empty), STATE);
        promise = 6;
        pairs(y);
        promise = 7;
        due("full", y.data(), 3000);
        due("data", x.data(), 11);
        parts();
    }

    private static void pairs(WindwardScheme y) {
        WindwardScheme x = new WindwardScheme();
        int empty = x.empty();
        due("no first", of(() -> x.pair(1, 0)), INDEX);
        due("no rest", of(() -> x.pair(0, -1)), INDEX);
        due("full", of(() -> y.pair(0, 0)), STATE);
        due("full and no part", of(() -> y.pair(3000, 0)), INDEX);
        due("number", x.pair(0, 0), 1);
        due("text", text(x, x.write(1)), "(())");
        int deep = 1;
        for (int depth = 3; depth <= 60; depth++) deep = x.pair(deep, empty);
        int deepest = deep;
        due("61 deep", of(() -> x.pair(deepest, empty)), STATE);
        due("60 deep", x.pair(empty, deepest), 60);
        int size = 1;
        int tree = empty;
        while (size * 2 + 1 <= 3000) {
            tree = x.pair(tree, tree);
            size = size * 2 + 1;
        }
        int large = tree;
        due("size 4095", of(() -> x.pair(large, large)), STATE);
        int list = large;
        while (size + 2 <= 3000) {
            list = x.pair(empty, list);
            size += 2;
        }
        int largest = list;
        due("size", size, 2999);
        due("size 3001", of(() -> x.pair(empty, largest)), STATE);
        due("changes nothing", x.data(), of(x::empty));
        due("sound", x.isSound(), true);
    }

    private static void parts() {
        WindwardScheme x = new WindwardScheme();
        x.number(3, 4);
        x.symbol(7);
        x.truth(true);
        x.truth(false);
        x.empty();
        x.pair(1, 0);
        x.pair(1, 5);
        promise = 8;
        String kinds = "nsttepp";
        for (int i = 0; i < 7; i++) due("kind " + i, x.kind(i), kinds.charAt(i));
        due("7", of(() -> x.kind(7)), INDEX);
        due("-1", of(() -> x.kind(-1)), INDEX);
        promise = 9;
        due("first", x.part(6, true), 1);
        due("rest", x.part(6, false), 5);
        due("rest", x.part(5, false), 0);
        due("no pair", of(() -> x.part(4, true)), UNSUPPORTED);
        due("none", of(() -> x.part(7, true)), INDEX);
        due("lowest", of(() -> x.part(Integer.MIN_VALUE, true)), INDEX);
        promise = 10;
        Object[] amounts = {3L, 7L, 1L, 0L, UNSUPPORTED, UNSUPPORTED, UNSUPPORTED, INDEX};
        for (int i = 0; i < 8; i++) {
            int datum = i;
            due("amount " + i, of(() -> x.amount(datum)), amounts[i]);
        }
        promise = 11;
        Object[] doubles = {0.75, UNSUPPORTED, UNSUPPORTED, UNSUPPORTED, UNSUPPORTED, UNSUPPORTED, UNSUPPORTED, INDEX};
        for (int i = 0; i < 8; i++) {
            int datum = i;
            due("double " + i, of(() -> x.asDouble(datum)), doubles[i]);
        }
        due("third", x.asDouble(x.number(-1, 3)), -1.0 / 3.0);
        promise = 12;
        alike();
    }

    private static void alike() {
        WindwardScheme x = new WindwardScheme();
        int one = lay(x, "(1 (s5 . #t) () 2/4)");
        int other = lay(x, "(1 (s5 . #t) () 1/2)");
        due("alike", x.areAlike(one, other), true);
        due("itself", x.areAlike(one, one), true);
        for (String text : new String[] {"(1 (s5 . #f) () 1/2)", "(1 (s5 . #t) () 1/2 ())", "(1 (s5 . #t) () . 1/2)", "1", "()",
            "(1 (s5 . #t) ())", "(1 (s6 . #t) () 1/2)", "(-1 (s5 . #t) () 1/2)", "((1) (s5 . #t) () 1/2)"}) {
            due(text, x.areAlike(one, lay(x, text)), false);
        }
        due("none", of(() -> x.areAlike(one, x.data())), INDEX);
        due("none", of(() -> x.areAlike(-1, one)), INDEX);
    }

    private static void texts() {
        WindwardScheme x = new WindwardScheme();
        promise = 13;
        int datum = lay(x, "( 1   (s2 . s3) ((())) . #f )");
        due("length", x.write(datum), 25);
        due("text", text(x, 25), "(1 (s2 . s3) ((())) . #f)");
        due("none", of(() -> x.write(datum + 1)), INDEX);
        due("still there", text(x, 25), "(1 (s2 . s3) ((())) . #f)");
        due("-1/2", text(x, x.write(x.number(1, -2))), "-1/2");
        int list = x.pair(x.number(1, 1), x.empty());
        for (int i = 0; i < 248; i++) list = x.pair(x.number(i % 10, 1), list);
        due("499", x.write(list), 499);
        int longer = x.pair(x.symbol(1), list);
        due("502", of(() -> x.write(longer)), UNSUPPORTED);
        due("clear", x.clear(), 499);
        due("500", x.write(x.pair(x.number(12, 1), x.part(list, false))), 500);
        promise = 15;
        due("first", x.charAt(0), '(');
        due("last", x.charAt(499), ')');
        due("behind", of(() -> x.charAt(500)), INDEX);
        due("ahead", of(() -> x.charAt(-1)), INDEX);
        promise = 16;
        due("full", of(() -> x.type('a')), STATE);
        due("full and wrong", of(() -> x.type((char) 31)), ARGUMENT);
        promise = 17;
        due("length", x.clear(), 500);
        due("again", x.clear(), 0);
        promise = 16;
        due("lowest", x.type(' '), 1);
        due("highest", x.type('~'), 2);
        due("31", of(() -> x.type((char) 31)), ARGUMENT);
        due("127", of(() -> x.type((char) 127)), ARGUMENT);
        due("0x128", of(() -> x.type((char) 0x128)), ARGUMENT);
        due("text", text(x, 2), " ~");
    }

    private static void readings() {
        promise = 18;
        String nines = "999999999999999999";
        String[] right = {
            "1", "1", "-0", "0", " 007 ", "7", "6/4", "3/2", "-6/4", "-3/2", "s0", "s0", "s059", "s59", "#t", "#t", "#f", "#f", "()", "()",
            "( )", "()", "(1)", "(1)", "(1 2)", "(1 2)", "(1 . 2)", "(1 . 2)", "(1 .(2))", "(1 2)", "((1). 2)", "((1) . 2)",
            "(1 . (2 . (3 . ())))", "(1 2 3)", "(1 2 . (3 . 4))", "(1 2 3 . 4)", "(#t(1)s2)", "(#t (1) s2)", "   (  1  )  ", "(1)",
            nines + "/" + nines, "1", "2000000000/2", "1000000000", "000000000000000001", "1", "s000000000000000009", "s9",
            "(().())", "(())", "((()))", "((()))", "-1000000000", "-1000000000", "1/000000001000000000", "1/1000000000", "(1 . #f)",
            "(1 . #f)", "0/5", "0"
        };
        WindwardScheme x = new WindwardScheme();
        for (int i = 0; i < right.length; i += 2) {
            typed(x, right[i]);
            Object datum = of(x::read);
            due(right[i], datum instanceof Integer n ? text(x, x.write(n)) : datum, right[i + 1]);
        }
        String[] wrongTexts = {
            "", " ", ".", "( . 1)", "(1 . )", "(1 . 2 3)", "(1 . 2 . 3)", "(1 .2)", "(1. 2)", "1 2", "(", ")", "(1", "1)", "(1))", "s", "s60",
            "s-1", "s5x", "#", "#x", "#tt", "t", "-", "--1", "+1", "1/", "/2", "1/-2", "1//2", "1/2/3", "1/0", "0/0", "1000000001",
            "1/1000000001", "0000000000000000001", "1/0000000000000000001", "s0000000000000000001", "1.5", "a", "~", "(1 . 2)3", ". 1", "1 .",
            "()()", "(#)", "1s2", "(. 1)", "(1 ..)", "(1 . .)", "(1 ... 2)", "-s1", "-/2", "1-", "#T"
        };
        for (String text : wrongTexts) {
            int before = x.data();
            typed(x, text);
            due(text, of(x::read), ARGUMENT);
            due("data behind " + text, x.data(), before);
            due("text behind " + text, x.clear(), text.length());
        }
        readingOrder();
        readingDepth();
        readingRoom();
    }

    private static void readingOrder() {
        WindwardScheme x = new WindwardScheme();
        typed(x, "(1 (s2) . s3)");
        due("number", x.read(), 6);
        StringBuilder kinds = new StringBuilder();
        for (int i = 0; i < x.data(); i++) kinds.append(x.kind(i));
        due("order", kinds, "nsepspp");
        due("last first", x.part(5, true) + " " + x.part(5, false), "3 4");
        due("outer", x.part(6, true) + " " + x.part(6, false), "0 5");
        due("text stays", x.clear(), 13);
    }

    private static void readingDepth() {
        WindwardScheme x = new WindwardScheme();
        for (int depth = 59; depth <= 62; depth++) {
            typed(x, "(".repeat(depth) + ")".repeat(depth));
            due(depth + " deep", of(x::read) instanceof Integer, depth <= 60);
            typed(x, "(".repeat(depth) + "1" + ")".repeat(depth));
            due(depth + 1 + " deep", of(x::read) instanceof Integer, depth + 1 <= 60);
        }
        typed(x, "(1 . ".repeat(83) + "2" + ")".repeat(83));
        int flat = x.read();
        due("deep in parentheses alone", x.kind(flat), 'p');
        typed(x, "(1 . ".repeat(20) + "(".repeat(60) + ")".repeat(60) + ")".repeat(20));
        due("deep at the end", of(x::read) instanceof Integer, true);
        typed(x, "(1 . ".repeat(20) + "(".repeat(61) + ")".repeat(61) + ")".repeat(20));
        due("too deep at the end", of(x::read), ARGUMENT);
        typed(x, "(".repeat(250) + ")".repeat(250));
        due("far too deep", of(x::read), ARGUMENT);
    }

    private static void readingRoom() {
        WindwardScheme x = new WindwardScheme();
        for (int i = 0; i < 2997; i++) x.empty();
        typed(x, "(1 2)");
        due("2 too many", of(x::read), STATE);
        typed(x, "(1 . ");
        due("wrong and too many", of(x::read), ARGUMENT);
        typed(x, "(1)");
        due("just right", x.read(), 2999);
        typed(x, "1");
        due("full", of(x::read), STATE);
        due("data", x.data(), 3000);
        String[] texts = {"1", "()", "(1)", "(1 . 2)", "((1) 2)", "(() . ())", "((s1 . s2) #t . #f)"};
        int[] needed = {1, 1, 3, 3, 7, 3, 7};
        for (int i = 0; i < texts.length; i++) {
            WindwardScheme y = new WindwardScheme();
            for (int j = 0; j < 3001 - needed[i]; j++) y.empty();
            typed(y, texts[i]);
            due("1 too many: " + texts[i], of(y::read), STATE);
            due("none was laid", y.data(), 3001 - needed[i]);
            WindwardScheme z = new WindwardScheme();
            for (int j = 0; j < 3000 - needed[i]; j++) z.empty();
            typed(z, texts[i]);
            due("just right: " + texts[i], of(z::read), 2999);
        }
    }

    private static void expansions() {
        promise = 14;
        WindwardScheme x = with("(define-syntax m () ((_ a) (lambda (b) (a b))))", "(define v 1)");
        String[] right = {
            "1", "1", "#t", "#t", "-1/2", "-1/2", "a", "s30", "+", "s10", "(quote a)", "(quote s30)", "(quote (1 . a))", "(quote (1 . s30))",
            "(quote 1)", "(quote 1)", "(if 1 2)", "(if 1 2)", "(if 1 2 3)", "(if 1 2 3)", "(lambda (a b) a b)", "(lambda (x0 x1) x0 x1)",
            "(lambda a a)", "(lambda x0 x0)", "(lambda (a . b) b)", "(lambda (x0 . x1) x1)", "(lambda () 1)", "(lambda () 1)",
            "(lambda (a) (lambda (b a) a b c))", "(lambda (x0) (lambda (x1 x2) x2 x1 s32))",
            "((lambda (a) a) (lambda (b . c) c))", "((lambda (x0) x0) (lambda (x1 . x2) x2))",
            "(define a 1)", "(define s30 1)", "(define if (if 1 2))", "(define s1 (if 1 2))", "(set! a 1)", "(set! s30 1)",
            "(lambda (a) (set! a 1) (set! b a))", "(lambda (x0) (set x0 1) (set s31 x0))", "(begin 1)", "(begin 1)", "(begin 1 2)", "(begin 1 2)",
            "(define-syntax a ())", "(define-syntax s30)", "(define-syntax m (x y) ((_ . a) b))", "(define-syntax s42)",
            "(+ 1 (a))", "(s10 1 (s30))", "(1)", "(1)", "((a))", "((s30))", "(lambda (if) (if 1))", "(lambda (x0) (x0 1))",
            "(m a)", "(lambda (x0) (s30 x0))", "(lambda (b) (m b))", "(lambda (x0) (lambda (x1) (x0 x1)))",
            "(lambda (m) (m 1))", "(lambda (x0) (x0 1))", "(... 1)", "(s7 1)", "(set! v 2)", "(set! s51 2)"
        };
        for (int i = 0; i < right.length; i += 2) due(right[i], expanded(x, right[i]), right[i + 1].replace("set!", "set"));
        String[] wrongForms = {
            "()", "if", "m", "(1 . 2)", "(quote)", "(quote 1 2)", "(quote . 1)", "(if 1)", "(if 1 2 3 4)", "(if)", "(lambda (a))", "(lambda)",
            "(lambda 1 2)", "(lambda (1) 2)", "(lambda (a a) 1)", "(lambda (a . a) 1)", "(lambda (a . 1) 1)", "(lambda ((a)) 1)",
            "(lambda (a) 1 . 2)", "(define a)", "(define 1 2)", "(define a 1 2)", "(begin (define a 1))", "(lambda () (define a 1))",
            "(if (define a 1) 1)", "(begin)", "(set! a)", "(set! 1 2)", "(set! if 2)", "(set! m 2)", "(set! a 1 2)", "(define-syntax a)",
            "(define-syntax 1 ())", "(define-syntax a b)", "(define-syntax a (1))", "(define-syntax a (b . c))", "(define-syntax a () 1)",
            "(define-syntax a () (b c))", "(define-syntax a () ((_)))", "(define-syntax a () ((_) 1 2))", "(define-syntax a () . 1)",
            "(begin (define-syntax a ()))", "(m)", "(m 1 2)", "(m . 1)", "(m 1 . 2)", "(+ 1 . 2)", "(+ ())", "(+ if)", "(lambda (a) ())",
            "(define-syntax a () ((_) . 1))", "(() 1)", "(define a if)"
        };
        for (String form : wrongForms) due(form, expanded(x, form), ARGUMENT);
        due("nothing was run", x.meaning(30), '-');
        due("no macro", expanded(x, "(define-syntax a () ((_) 1))") + x.meaning(30), "(define-syntax s30)-");
        due("no expansions of runs", x.expansions(), 0);
        due("none", of(() -> x.writeExpanded(x.data())), INDEX);
        expandedLengths(x);
        formsAround();
    }

    private static void expandedLengths(WindwardScheme x) {
        int end = x.empty();
        int list = end;
        for (int i = 0; i < 248; i++) list = x.pair(x.number(1, 1), list);
        int call = x.pair(x.number(12, 1), list);
        due("500", x.writeExpanded(call), 500);
        int longer = x.pair(x.number(123, 1), list);
        typed(x, "abc");
        due("501", of(() -> x.writeExpanded(longer)), UNSUPPORTED);
        due("text stays", text(x, 3), "abc");
        int wrongToo = x.pair(end, longer);
        due("wrong and too long", of(() -> x.writeExpanded(wrongToo)), ARGUMENT);
    }

    private static String nested(String head, int times, String inner) {
        return ("(" + head + " ").repeat(times) + inner + ")".repeat(times);
    }

    private static void formsAround() {
        WindwardScheme x = with("(define-syntax d () ((_ a) " + nested("begin", 10, "a") + "))",
                "(define-syntax e () ((_ a) " + nested("d", 10, "a") + "))");
        due("too long to be written", expanded(x, "(e 1)"), UNSUPPORTED);
        due("100 forms around", run(x, "(e 1)"), "1");
        due("101 forms around", run(x, "(e (begin 1))"), "error x");
        due("101 forms around", run(x, "(begin (e 1))"), "error x");
        due("90 and 10 forms around", run(x, nested("d", 9, "(d 1)")), "1");
        due("a macro at 100", run(x, "(e (m))"), "error x");
        run(x, "(define-syntax m () ((_) 5))");
        due("a macro at 100", run(x, "(e (m))"), "5");
        int before = x.expansions();
        due("a macro at 101", run(x, "(begin (e (m)))"), "error x");
        due("not begun at 101", x.expansions() - before, 11);
    }

    private static void patterns() {
        promise = 14;
        String[] rightPatterns = {"(_)", "(1 a)", "(a . b)", "(_ (a b) ...)", "(_ a ...)", "(_ (a ...) ...)", "(_ _ _)", "(_ k k)", "(_ 1 #t ())",
            "(_ a b . c)", "(a a)", "((a) a)", "(... a)", "(_ (_ ...))", "(_ 1 ...)", "(_ k ...)", "((1 2) a ...)"};
        WindwardScheme x = new WindwardScheme();
        for (String pattern : rightPatterns) {
            due(pattern, expanded(x, "(define-syntax m (k) (" + pattern + " 1))"), "(define-syntax s42)");
        }
        String[] wrongPatterns = {"a", "()", "1", "(_ a a)", "(_ (a) a)", "(_ ...)", "(_ a ... b)", "(_ a ... . b)", "(_ . ...)", "(_ a ... ...)",
            "(_ (a b ...) b)", "(_ (...))"};
        for (String pattern : wrongPatterns) due(pattern, expanded(x, "(define-syntax m (k) (" + pattern + " 1))"), ARGUMENT);
        due("a wrong second rule", expanded(x, "(define-syntax m () ((_) 1) ((_ a a) 1))"), ARGUMENT);
        due("literal twice", expanded(x, "(define-syntax m (k k if) ((_ if) 1))"), "(define-syntax s42)");
        due("ellipsis as literal", run(x, "(define-syntax m (...) ((_ ...) 1) ((_ a ...) (quote (a ...))))"), "#u");
        due("ellipsis alone is the literal", run(x, "(m ...)"), "1");
        due("ellipsis behind a pattern", run(x, "(m 1 2)"), "(1 2)");
        String[] matches = {
            "(_)", "(m)", "yes", "(_)", "(m 1)", "no", "(_ 1)", "(m 1)", "yes", "(_ 1)", "(m 2)", "no", "(_ 1/2)", "(m 2/4)", "yes", "(_ #t)", "(m #t)",
            "yes", "(_ #t)", "(m #f)", "no", "(_ ())", "(m ())", "yes", "(_ ())", "(m 1)", "no", "(_ 1)", "(m (1))", "no", "(_ k)", "(m k)", "yes", "(_ k)",
            "(m a)", "no", "(_ k)", "(m 1)", "no", "(_ _)", "(m (1 2))", "yes", "(_ . _)", "(m)", "yes", "(_ . a)", "(m 1 2)", "yes", "(_ (a . b))",
            "(m (1 . 2))", "yes", "(_ (a . b))", "(m (1 2))", "yes", "(_ (a . b))", "(m ())", "no", "(_ a ...)", "(m)", "yes", "(_ a ...)", "(m 1 2 3)",
            "yes", "(_ a b ...)", "(m)", "no", "(_ a b ...)", "(m 1)", "yes", "(_ (a ...))", "(m (1 . 2))", "no", "(_ (a ...))", "(m 1)", "no",
            "(_ (a b) ...)", "(m (1 2) (3 4))", "yes", "(_ (a b) ...)", "(m (1 2) (3))", "no", "(_ (a ...) ...)", "(m () (1))", "yes", "(_ 1 ...)",
            "(m 1 1)", "yes", "(_ 1 ...)", "(m 1 2)", "no", "(_ k ...)", "(m k k)", "yes", "(_ k ...)", "(m k a)", "no", "(_ if)", "(m if)", "yes",
            "(_ (k a))", "(m (k))", "no", "(_ a . 1)", "(m 2)", "no", "(_ quote)", "(m 5)", "yes", "(_ (quote) 1)", "(m (5) 1)", "yes", "(_ #f)", "(m ())", "no"
        };
        for (int i = 0; i < matches.length; i += 3) {
            run(x, "(define-syntax m (k if) (" + matches[i] + " 100) ((_ . _) 200))");
            due(matches[i] + " on " + matches[i + 1], run(x, matches[i + 1]), matches[i + 2].equals("yes") ? "100" : "200");
        }
        boundLiterals(x);
    }

    private static void boundLiterals(WindwardScheme x) {
        run(x, "(define-syntax m (k) ((_ k) 100) ((_ a) 200))");
        due("a bound literal", run(x, "((lambda (k) (m k)) 1)"), "200");
        due("another bound name", run(x, "((lambda (a) (m k)) 1)"), "100");
        run(x, "(define-syntax n () ((_ a) (m k)) ((_ a b) (lambda (k) (m b))))");
        due("a renamed literal", run(x, "(n 1)"), "100");
        due("bound by another name", run(x, "((n 1 k) 1)"), "100");
        run(x, "(define-syntax n () ((_) (lambda (k) (m k))))");
        due("bound by the renamed name", run(x, "((n) 1)"), "200");
        due("first rule that fits", run(x, "(m k)"), "100");
        due("no rule", run(x, "(m)"), "error x");
        run(x, "(define-syntax m ())");
        due("without rules", run(x, "(m)"), "error x");
    }

    private static void templates() {
        promise = 14;
        WindwardScheme x = new WindwardScheme();
        String[] fills = {
            "(_ a b)", "(b a)", "(m 1 2)", "(2 1)", "(_ a ...)", "(a ... 9)", "(m 1 2)", "(1 2 9)", "(_ a ...)", "(a ... . 9)", "(m 1 2)", "(1 2 . 9)",
            "(_ a ...)", "((a 0) ...)", "(m 1 2)", "((1 0) (2 0))", "(_ (a b) ...)", "((b ...) a ...)", "(m (1 2) (3 4))", "((2 4) 1 3)",
            "(_ (a b ...) ...)", "((a (b a) ...) ...)", "(m (1 2 3) (4))", "((1 (2 1) (3 1)) (4))",
            "(_ (a ...) ...)", "((a ...) ...)", "(m (1 2) () (3))", "((1 2) () (3))", "(_ a ...)", "(a ... ...)", "(m 1)", "(1 s7)",
            "(_ a ...)", "(a ... ... 2)", "(m 1)", "(1 s7 2)", "(_ a ...)", "(a ...)", "(m)", "()", "(_ a)", "a", "(m (1 . 2))", "(1 . 2)",
            "(_ a)", "(... a)", "(m 1)", "(s7 1)", "(_ a b ...)", "((a b) ...)", "(m 1 2 3)", "((1 2) (1 3))", "(_)", "(1 #t () . k)", "(m)", "(1 #t () . s40)",
            "(_ a . b)", "(b . a)", "(m 1 2 3)", "((2 3) . 1)", "(_ a ...)", "(a ... a ...)", "(m 1 2)", "(1 2 1 2)", "(_ a ...)", "(a . ...)", "(m)", "error x",
            "(_ k a)", "(k a _)", "(m k 1)", "(s40 1 s8)", "(_ (a ...) b ...)", "((a b) ...)", "(m (1 2) 3 4)", "((1 3) (2 4))",
            "(_ a ...)", "(1 . ...)", "(m 1 2)", "(1 . s7)", "(_ a ...)", "(a ... . ...)", "(m 1 2)", "(1 2 . s7)",
            "(_ ((a b ...) ...) ...)", "(((b ... a) ...) ...)", "(m ((1 2)) () ((3) (4 5 6)))", "(((2 1)) () ((3) (5 6 4)))"
        };
        for (int i = 0; i < fills.length; i += 4) {
            String definition = "(define-syntax m (k) (" + fills[i] + " (quote " + fills[i + 1] + ")))";
            due(definition, run(x, definition), "#u");
            due(fills[i] + " to " + fills[i + 1] + " with " + fills[i + 2], run(x, fills[i + 2]), fills[i + 3]);
        }
        String[] wrongFills = {
            "(_ a ...)", "a", "(m 1)", "(_ a ...)", "(a)", "(m)", "(_ a)", "(a ...)", "(m 1)", "(_)", "(1 ...)", "(m)", "(_ (a ...) b ...)", "((a b) ...)",
            "(m (1 2) 3)", "(_ (a ...) ...)", "(a ...)", "(m (1))", "(_ a ...)", "((a ...) ...)", "(m 1)", "(_ a ...)", "(a ... ... ...)", "(m 1)",
            "(_ (a ...) b)", "((a ... b) ...)", "(m (1) 2)", "(_ a ...)", "...", "(m 1)", "(_ (a b ...) ...)", "((a ...) b ...)", "(m (1))", "(_)", "(k ...)", "(m)"
        };
        for (int i = 0; i < wrongFills.length; i += 3) {
            run(x, "(define-syntax m (k) (" + wrongFills[i] + " (quote " + wrongFills[i + 1] + ")))");
            int before = x.expansions();
            due(wrongFills[i] + " to " + wrongFills[i + 1] + " with " + wrongFills[i + 2], run(x, wrongFills[i + 2]), "error x");
            due("counted", x.expansions() - before, 1);
        }
        run(x, "(define-syntax m () ((_ (a ...) ...) (quote (a ...))))");
        due("no item, so no row is left", run(x, "(m)"), "()");
        hygiene();
        limits();
    }

    private static void hygiene() {
        WindwardScheme x = with("(define-syntax o (s59) ((_) #f) ((_ a) a) ((_ a b ...) ((lambda (t) (if t t (o b ...))) a)))",
                "(define-syntax w () ((_ a b) ((lambda (t) (begin (set! a b) (set! b t))) a)))", "(define t 5)");
        due("own name catches nothing", run(x, "((lambda (t) (o #f t)) 7)"), "7");
        due("global too", run(x, "(o #f t)"), "5");
        due("written", expanded(x, "(o t u)"), "((lambda (x0) (if x0 x0 s50)) s49)");
        due("swap", run(x, "((lambda (t u) (w t u) (cons t u)) 1 2)"), "(2 . 1)");
        run(x, "(define-syntax l () ((_ a b c) ((lambda (a) c) b)))");
        due("a name that is handed in binds", run(x, "(l v 3 (+ v v))"), "6");
        run(x, "(define-syntax i () ((_ a) ((lambda (if) (if a)) (lambda (b) b))))");
        due("a keyword as a bound name", run(x, "(i 4)"), "4");
        due("a macro does not see the bound names of its use", run(x, "((lambda (if) (o 1 2)) 3)"), "1");
        run(x, "(define-syntax g () ((_ n) (define n t)))");
        due("a definition that comes out", run(x, "(g q)"), "#u");
        due("its value", run(x, "q"), "5");
        run(x, "(define-syntax g () ((_) (define z 6)))");
        due("a definition of a renamed name", expanded(x, "(g)") + run(x, "(g)") + run(x, "z"), "(define s55 6)#u6");
        run(x, "(define-syntax g () ((_ n b) (define-syntax n () ((_ a) (+ a b)))))");
        due("a macro that makes a macro", run(x, "(g h 3)") + run(x, "(h 4)"), "#u7");
        run(x, "(define-syntax g () ((_ n) (define-syntax n () ((_ a dots) 1) ((_ a b) (quote (a b t))))))".replace("dots", "..."));
        due("ellipsis in a template of a rule", run(x, "(g h)"), "error x");
        run(x, "(define-syntax g () ((_ n) (define-syntax n () ((_ a) (lambda (a t) (a t))))))");
        run(x, "(g h)");
        due("marks upon marks", expanded(x, "(h t)"), "(lambda (x0 x1) (x0 x1))");
        run(x, "(define-syntax g () ((_ a) (lambda (a t) t)))");
        due("names with other marks are different", expanded(x, "(g t)"), "(lambda (x0 x1) x1)");
        run(x, "(define-syntax g () ((_ a) (lambda (t t) a)))");
        due("names with one mark are not", expanded(x, "(g 1)"), ARGUMENT);
        run(x, "(define-syntax g () ((_ a) ((lambda (t) (h t a)) 1)))");
        run(x, "(define-syntax h () ((_ a b) ((lambda (t) (cons a (cons t b))) 2)))");
        due("each expansion has a mark of its own", run(x, "((lambda (t) (g t)) 3)"), "(1 2 . 3)");
        due("each expansion has a mark of its own", run(x, "((lambda (t) (g (g t))) 3)"), "(1 2 1 2 . 3)");
    }

    private static void limits() {
        WindwardScheme x = with("(define-syntax s () ((_ a) (s a)))", "(define-syntax t () ((_) 1))",
                "(define-syntax p () ((_ a) (begin a a)))");
        due("endless expansion", run(x, "(s 1)"), "error x");
        due("200 of them", x.expansions(), 200);
        StringBuilder form = new StringBuilder("(t)");
        for (int i = 0; i < 6; i++) form.insert(0, "(p ").append(")");
        due("63 and 64", run(x, form.toString()), "1");
        due("counted", x.expansions(), 200 + 127);
        due("127 and 128", run(x, "(p " + form + ")"), "error x");
        due("counted up to 200", x.expansions(), 200 + 127 + 200);
        String three = "(begin (t) (t) (t) (t) (t) (t) (t) (t) (t) (t))";
        String calls = "(begin";
        for (int i = 0; i < 20; i++) calls += " (z)";
        run(x, "(define-syntax z () ((_) " + three + "))");
        due("20 and 200", run(x, calls + ")"), "error x");
        run(x, "(define-syntax z () ((_) (begin (t) (t) (t) (t) (t) (t) (t) (t) (t))))");
        due("20 and 180", run(x, calls + ")"), "1");
        due("20 and 180 and 1", run(x, calls + " (t))"), "error x");
        outcomes();
    }

    private static void outcomes() {
        WindwardScheme x = with("(define-syntax d () ((_ a) (quote " + "(".repeat(10) + "a" + ")".repeat(10) + ")))", "(define-syntax q () ((_ a) (quote a)))",
                "(define-syntax l () ((_ (a ...)) (quote (0 a ...))))");
        int deep = x.number(1, 1);
        int end = x.empty();
        for (int i = 0; i < 57; i++) deep = x.pair(deep, end);
        int form = x.pair(x.symbol(33), x.pair(deep, end));
        due("deep data come out", x.begin(form), 'r');
        x.run(1);
        due("text", x.writeValue(), 1 + 2 * 67);
        int size = 0;
        int list = end;
        for (int i = 0; i < 1494; i++) list = x.pair(end, list);
        // (quote (0 a ..)) with n items has the size 2 n + 3 and 4 around it.
        for (int items = 1494; items <= 1497; items++) {
            int use = x.pair(x.symbol(41), x.pair(list, end));
            size = 2 * items + 7;
            due("size " + size, x.begin(use), size <= 3000 ? 'r' : 'e');
            list = x.pair(end, list);
        }
    }

    private static void quotedMarks() {
        promise = 14;
        WindwardScheme x = with("(define-syntax q () ((_ a) (quote (a k (k) a))))", "(define-syntax r () ((_) (q k)))",
                "(define-syntax e () ((_ a) (eq? (quote a) (quote a))))", "(define-syntax f () ((_) (e (k))))");
        due("marks off", run(x, "(q (1 2))"), "((1 2) s40 (s40) (1 2))");
        due("marks off", expanded(x, "(r)"), "(quote (s40 s40 (s40) s40))");
        due("a datum without marks stays the same", run(x, "(e (1))"), "#t");
        due("a pair with marks is made anew for each form", run(x, "(f)"), "#f");
        run(x, "(define-syntax e () ((_ a) (cons (eq? (quote a) (quote a)) (eq? (car (quote a)) (car (quote a))))))");
        run(x, "(define-syntax f () ((_) (e ((k) (1) k))))");
        due("all of its parts with marks, too", run(x, "(f)"), "(#f . #f)");
        run(x, "(define-syntax f () ((_ b) (e (b (1) k))))");
        due("but not those without", run(x, "(f (1))"), "(#f . #t)");
        run(x, "(define-syntax g () ((_ a) ((lambda (b) (eq? (car b) (car (cdr b)))) (quote (a a)))))");
        due("shared without marks", run(x, "(g (1))"), "#t");
        run(x, "(define-syntax h () ((_) (g (k))))");
        due("a pair with marks is made anew once for this form", run(x, "(h)"), "#t");
        run(x, "(define-syntax i () ((_) (lambda () (quote (k)))))");
        due("defined", run(x, "(define j (i))"), "#u");
        due("once for this form", run(x, "(eq? (j) (j))"), "#t");
        run(x, "(define-syntax i () ((_ a) ((lambda (b) (eq? (car b) (quote a))) (quote (a k)))))");
        int inner = lay(x, "(1 2)");
        int use = x.pair(x.symbol(38), x.pair(inner, x.empty()));
        due("all else stays the same datum", x.begin(use) + "" + x.run(50) + text(x, x.writeValue()), "rv#t");
        due("one laid datum in two forms", run(x, "#t"), "#t");
        int quote = x.symbol(0);
        int end = x.empty();
        int one = x.pair(quote, x.pair(inner, end));
        int two = x.pair(quote, x.pair(inner, end));
        int same = x.pair(x.symbol(21), x.pair(one, x.pair(two, end)));
        due("is the same", x.begin(same) + "" + x.run(1) + text(x, x.writeValue()), "rv#t");
        due("two readings are not", run(x, "(eq? (quote (1)) (quote (1)))"), "#f");
    }

    private static void running() {
        WindwardScheme x = new WindwardScheme();
        promise = 20;
        due("run", of(() -> x.run(1)), STATE);
        due("run wrong", of(() -> x.run(0)), STATE);
        promise = 21;
        due("state", of(x::state), STATE);
        promise = 22;
        due("valueKind", of(x::valueKind), STATE);
        promise = 23;
        due("valueAmount", of(x::valueAmount), STATE);
        promise = 24;
        due("writeValue", of(x::writeValue), STATE);
        promise = 25;
        due("error", of(x::error), STATE);
        promise = 26;
        due("winds", of(x::winds), STATE);
        promise = 27;
        due("handlers", of(x::handlers), STATE);
        promise = 19;
        due("none", of(() -> x.begin(0)), INDEX);
        due("none", of(() -> x.begin(-1)), INDEX);
        due("still not begun", of(x::state), STATE);
        due("wrong form", x.begin(lay(x, "()")), 'e');
        due("state", x.state() + "" + x.error(), "ex");
        due("right form", x.begin(lay(x, "(+ 1 2)")), 'r');
        due("state", x.state(), 'r');
        promise = 25;
        due("no error yet", of(x::error), NO_ELEMENT);
        promise = 22;
        due("no value yet", of(x::valueKind), NO_ELEMENT);
        promise = 20;
        for (int fuel : new int[] {0, 501, -1, Integer.MIN_VALUE}) due("fuel " + fuel, of(() -> x.run(fuel)), ARGUMENT);
        due("run", x.run(1), 'v');
        due("again", x.run(1), 'v');
        due("ended and wrong", of(() -> x.run(0)), ARGUMENT);
        due("applications", x.applications(), 1);
        fuel();
        values();
    }

    private static void fuel() {
        WindwardScheme x = with("(define a 0)");
        promise = 20;
        x.begin(lay(x, "(begin (set! a 1) (+ 1 (begin (set! a 2) (+ 2 (begin (set! a 3) 3)))))"));
        due("before", text(x, x.writeGlobal(30)), "0");
        due("one", x.run(1) + text(x, x.writeGlobal(30)), "r3");
        due("two", x.run(1) + text(x, x.writeValue()), "v6");
        x.begin(lay(x, "(begin (not 1) (set! a 4) 5)"));
        due("goes on up to the next application", x.run(1) + text(x, x.writeValue()), "v5");
        x.begin(lay(x, "(begin (not 1) (set! a 6) (b 1))"));
        due("an error ahead of the next application", x.run(1) + "" + x.error(), "eu");
        x.begin(lay(x, "(begin (not 1) (set! a 7) (1))"));
        due("none left", x.run(1) + text(x, x.writeGlobal(30)), "r7");
        due("then the error", x.run(1) + "" + x.error(), "en");
        x.begin(lay(x, "1"));
        due("without an application", x.run(500), 'v');
        run(x, "(define f (lambda (n) (f (+ n 1))))");
        x.begin(lay(x, "(f 0)"));
        long before = x.applications();
        due("endless", x.run(500) + "" + x.run(499) + x.run(1), "rrr");
        due("applications", x.applications() - before, 1000);
        due("replaced", x.begin(lay(x, "2")) + "" + x.run(1) + text(x, x.writeValue()), "rv2");
    }

    private static void values() {
        WindwardScheme x = new WindwardScheme();
        String[] programs = {"1/2", "n1/2", "(quote a)", "ss30", "#t", "t#t", "#f", "t#f", "(quote ())", "e()", "(quote (1 . a))", "p(1 . s30)",
            "(if #f 1)", "u#u", "(lambda () 1)", "c#c", "+", "f#p10", "(call/cc call/cc)", "k#k", "(define a 1)", "u#u", "(set! a 2)", "u#u",
            "(define-syntax a ())", "u#u", "(cons car (cons (lambda a a) (if #f 1)))", "p(#p17 #c . #u)"};
        for (int i = 0; i < programs.length; i += 2) {
            promise = 24;
            String value = run(x, programs[i]);
            promise = 22;
            due(programs[i], x.valueKind() + value, programs[i + 1]);
            promise = 23;
            Object amount = of(x::valueAmount);
            due("amount of " + programs[i], amount, programs[i].equals("1/2") ? 1L : UNSUPPORTED);
            promise = 25;
            due("error", of(x::error), NO_ELEMENT);
        }
        promise = 23;
        run(x, "(- 0 7/2)");
        due("amount", x.valueAmount(), -7);
        run(x, "(car 1)");
        due("amount", of(x::valueAmount), NO_ELEMENT);
        promise = 24;
        due("writeValue", of(x::writeValue), NO_ELEMENT);
        due("text stays", text(x, 7), "(s17 1)");
        run(x, "(define l (lambda (n a) (if (= n 0) a (l (- n 1) (cons 12 a)))))");
        due("500 characters", run(x, "(l 164 (quote (1 . 55)))").length(), 500);
        due("501 characters", of(() -> run(x, "(l 164 (quote (1 . 555)))")), UNSUPPORTED);
        due("text stays", x.clear(), "(s41 164 (s0 (1 . 555)))".length());
        due("the value is still there", x.valueKind(), 'p');
    }

    private static void evaluation() {
        promise = 20;
        all("(define a 1)", "#u", "a", "1", "(begin 1 a)", "1", "(if 0 1 2)", "1", "(if (quote ()) 1 2)", "1", "(if #f 1 2)", "2",
                "((lambda (a b) (cons a b)) 2 3)", "(2 . 3)", "((lambda a a))", "()", "((lambda a a) 1 2)", "(1 2)", "((lambda (a . b) (cons b a)) 1 2 3)",
                "((2 3) . 1)", "((lambda (a . b) b) 1)", "()", "((lambda (a) 5 (set! a 2) a) 1)", "2", "(set! a 9)", "#u", "a", "9",
                "((lambda (b) (begin (set! b (+ b 1)) b)) 1)", "2", "(define c (lambda (n) (lambda () (begin (set! n (+ n 1)) n))))", "#u",
                "(define d (c 5))", "#u", "(d)", "6", "(d)", "7", "((c 5))", "6", "(d)", "8", "(((lambda (a) (lambda (b) (cons a b))) 1) 2)", "(1 . 2)",
                "(define f (lambda (n) (if (= n 0) 1 (* n (f (- n 1))))))", "#u", "(f 5)", "120",
                "(define b (lambda () (quote 1)))", "#u", "(define quote 3)", "#u", "quote", "3", "(b)", "1", "(quote 1)", "error n", "(define if 3)", "#u", "if", "3", "(if 1 2)", "error n",
                "(define-syntax a () ((_) 4))", "#u", "(a)", "4", "a", "error x", "(define a 5)", "#u", "(a)", "error n", "a", "5", "(a 1 y)", "error u");
        all("(define f (lambda () g))", "#u", "(f)", "error u", "(define g 1)", "#u", "(f)", "1", "(define-syntax g ())", "#u", "(f)", "error u",
                "(define h (lambda (n) (set! n 5) (set! m n)))", "#u", "(h 1)", "error u", "(define m 0)", "#u", "(h 1)", "#u", "m", "5",
                "(define-syntax m ())", "#u", "(h 1)", "error u", "(set! z (car 1))", "error t", "(set! z 1)", "error u", "(define k (lambda () (k)))", "#u",
                "(begin (set! f 1) (set! f (+ f 1)) f)", "2");
        order();
    }

    private static void order() {
        WindwardScheme x = with("(define t (quote ()))", "(define l (lambda (a) (set! t (cons a t)) a))");
        due("first to last", run(x, "((l +) (l 1) (l 2))"), "3");
        due("the order", run(x, "t"), "(2 1 #p10)");
        run(x, "(set! t (quote ()))");
        due("the values", run(x, "((lambda (a) (a (l 1) (l 2) (begin (set! t (cons 0 t)) (l 3)))) (lambda (a b c) (cons a (cons b c))))"), "(1 2 . 3)");
        due("the order", run(x, "t"), "(3 0 2 1)");
        due("a variable is looked at in its turn", run(x, "((lambda (a) (cons a (begin (set! a 2) a))) 1)"), "(1 . 2)");
        due("an operator is looked at first", run(x, "(z (car 1))"), "error u");
        due("then the parts", run(x, "(1 (car 1))"), "error t");
    }

    private static void primitives() {
        promise = 20;
        all("(+ 1/2 1/3)", "5/6", "(- 1/2 1/2)", "0", "(* 2/3 3/2)", "1", "(/ 1 -3)", "-1/3", "(/ 0 5)", "0", "(< 1/3 1/2)", "#t", "(< 1/2 1/2)", "#f",
                "(< -1 0)", "#t", "(= 1/2 2/4)", "#t", "(= 1 2)", "#f", "(cons 1 2)", "(1 . 2)", "(car (quote (1 . 2)))", "1", "(cdr (quote (1 . 2)))", "2",
                "(pair? (quote (1)))", "#t", "(pair? (quote ()))", "#f", "(null? (quote ()))", "#t", "(null? #f)", "#f", "(null? (quote (1)))", "#f",
                "(eq? 1/2 2/4)", "#t", "(eq? 1 2)", "#f", "(eq? (quote a) (quote a))", "#t", "(eq? (quote a) (quote b))", "#f", "(eq? #t #t)", "#t",
                "(eq? #t #f)", "#f", "(eq? (quote ()) (quote ()))", "#t", "(eq? (if #f 1) (if #f 1))", "#t", "(eq? (quote ()) #f)", "#f",
                "(eq? (cons 1 2) (cons 1 2))", "#f", "((lambda (a) (eq? a a)) (cons 1 2))", "#t", "(eq? car car)", "#t", "(eq? car cdr)", "#f",
                "((lambda (a) (eq? a a)) (lambda () 1))", "#t", "(eq? (lambda () 1) (lambda () 1))", "#f", "((lambda (a) (eq? a a)) (call/cc call/cc))", "#t",
                "(eq? 1 #t)", "#f", "(not #f)", "#t", "(not 0)", "#f", "(not (quote ()))", "#f", "(apply + (quote (1 2)))", "3",
                "(apply (lambda a a) (quote (1 2)))", "(1 2)", "(apply (lambda () 7) (quote ()))", "7",
                "((lambda (a) (eq? a (apply (lambda b b) a))) (quote (1 2)))", "#f", "(+ 999999999 1)", "1000000000", "(- -999999999 1)", "-1000000000",
                "(* 1000000000 1/1000000000)", "1", "(/ 1/1000000000 1/1000000000)", "1");
        all("(+ 1000000000 1)", "error o", "(- -1000000000 1)", "error o", "(* 100000 100000)", "error o", "(/ 1 0)", "error z", "(/ 0 0)", "error z",
                "(/ 1/1000000000 2)", "error o", "(+ 1/999999999 1/1000000000)", "error o", "(+ 1000000000 1/2)", "error o", "(+ 1)", "error a", "(+)", "error a",
                "(+ 1 2 3)", "error a", "(+ #t)", "error a", "(+ 1 #t)", "error t", "(+ (quote a) 1)", "error t", "(/ #t 0)", "error t", "(< 1 (quote ()))",
                "error t", "(= 1 #f)", "error t", "(cons 1)", "error a", "(car 1)", "error t", "(car (quote ()))", "error t", "(cdr (quote ()))", "error t",
                "(car)", "error a", "(pair?)", "error a", "(null? 1 2)", "error a", "(eq? 1)", "error a", "(not)", "error a", "(apply + 1)", "error t",
                "(apply + (quote (1 . 2)))", "error t", "(apply 1 (quote (1)))", "error n", "(apply 1 2)", "error t", "(apply +)", "error a",
                "(call/cc)", "error a", "(call/cc 1)", "error n", "(call/cc (lambda () 1))", "error a", "(wind 1 2)", "error a", "(wind 1 2 3)", "error n",
                "(prompt 1)", "error a", "(prompt 1 2)", "error n", "(abort)", "error a", "(abort 1)", "error w", "(handle 1)", "error a",
                "(handle 1 2)", "error n", "(raise)", "error a", "(raise 1)", "error h", "(1 2)", "error n", "((quote a))", "error n",
                "((lambda (a) 1))", "error a", "((lambda (a) 1) 1 2)", "error a", "((lambda (a . b) 1))", "error a", "((call/cc call/cc))", "error a",
                "(wind (lambda () 1) 2 3)", "error n", "(wind (lambda () 1) (lambda () 2) 3)", "error n", "((call/cc call/cc) 1 2)", "error a");
    }

    private static void continuations() {
        promise = 20;
        all("(+ 1 (call/cc (lambda (k) (+ 10 (k 1)))))", "2", "(+ 1 (call/cc (lambda (k) 5)))", "6", "(define k 0)", "#u", "(define n 0)", "#u",
                "(+ 100 (call/cc (lambda (c) (set! k c) 1)))", "101", "(k 5)", "105", "(cons (k 7) 1)", "107",
                "(begin (set! n (+ n 1)) (call/cc (lambda (c) (set! k c) 1)) (set! n (+ n 10)) n)", "11", "(k 0)", "21", "(k 0)", "31",
                "(define v (call/cc (lambda (c) (set! k c) 1)))", "#u", "v", "1", "(k 2)", "#u", "v", "2", "(begin (k 3) (set! n 0))", "#u", "v", "3", "n", "31",
                "((call/cc (lambda (k) k)) (lambda (a) 5))", "5", "((lambda (c) (if (< n 34) (begin (set! n (+ n 1)) (c c)) n)) (call/cc (lambda (k) k)))", "34");
        WindwardScheme x = with("(define k 0)", "(define e (quote ()))");
        due("values that were there before", run(x, "(cons 1 (cons (call/cc (lambda (c) (set! k c) 2)) (cons 3 e)))"), "(1 2 3)");
        due("again", run(x, "(k 4)"), "(1 4 3)");
        due("and again", run(x, "(k 5)"), "(1 5 3)");
        promise = 34;
        due("jumps", x.jumps(), 2);
        due("wrong number", run(x, "(k)"), "error a");
        due("no jump", x.jumps(), 2);
    }

    /** A Scheme with a procedure n that notes a number in t, and w that winds with notes of a, a + 1 around a thunk. */
    private static WindwardScheme noting() {
        return with("(define t (quote ()))", "(define n (lambda (a) (set! t (cons a t)) a))",
                "(define w (lambda (a b) (wind (lambda () (n a)) b (lambda () (n (+ a 1))))))", "(define k #f)", "(define j #f)",
                "(define c (lambda () (call/cc (lambda (a) (set! k a) (n 0)))))");
    }

    private static String notes(WindwardScheme x) {
        String notes = text(x, x.writeGlobal(49));
        run(x, "(set! t (quote ()))");
        return notes;
    }

    private static void winds() {
        promise = 26;
        WindwardScheme x = noting();
        due("wind", run(x, "(w 1 (lambda () (n 5)))"), "5");
        due("its order", notes(x), "(2 5 1)");
        due("in and out", x.entered() + " " + x.left(), "1 1");
        due("nested", run(x, "(w 1 (lambda () (+ 1 (w 3 c))))"), "1");
        due("its order", notes(x), "(2 4 0 3 1)");
        due("in again", run(x, "(k 7)"), "8");
        due("outermost first", notes(x), "(2 4 3 1)");
        due("counted", x.entered() + " " + x.left() + " " + x.jumps(), "5 5 1");
        due("from one to another", run(x, "(w 5 (lambda () (k 9)))"), "10");
        due("innermost is left first", notes(x), "(2 4 3 1 6 5)");
        run(x, "(w 1 (lambda () (w 3 (lambda () (call/cc (lambda (a) (set! j a)))) ) (w 5 (lambda () (if k (begin (set! k #f) (j 1)) 2)))))");
        due("a common one stays", notes(x), "(2 6 5 4 3 6 5 4 3 1)");
        due("out of two", run(x, "(call/cc (lambda (o) (w 1 (lambda () (w 3 (lambda () (o 8)))))))"), "8");
        due("both are left", notes(x), "(2 4 3 1)");
        run(x, "(w 7 (lambda () (call/cc (lambda (a) (set! j a)))))");
        notes(x);
        run(x, "(begin (set! k 0) (w 1 (lambda () (w 3 (lambda () (w 5 (lambda () (if (= k 0) (begin (set! k 1) (j 9)) 2))))))))");
        due("out of three and into one", notes(x), "(8 7 2 4 6 5 3 1)");
        run(x, "(w 1 (lambda () (w 3 (lambda () (w 5 (lambda () (call/cc (lambda (a) (set! j a)))))))))");
        notes(x);
        run(x, "(w 7 (lambda () (j 9)))");
        due("out of one and into three", notes(x), "(2 4 6 5 3 1 8 7)");
        due("to where it is", run(x, "(w 1 (lambda () (+ 1 (call/cc (lambda (o) (o 8))))))"), "9");
        due("nothing is left for it", notes(x), "(2 1)");
        windCounts();
        jumpsInJumps();
        reenteredBefore();
    }

    private static void windCounts() {
        WindwardScheme x = noting();
        x.begin(lay(x, "(wind (lambda () (not 1)) (lambda () (not 2)) (lambda () (not 3)))"));
        StringBuilder counts = new StringBuilder();
        for (int i = 0; i < 7; i++) counts.append(x.run(1)).append(x.winds()).append(x.entered()).append(x.left()).append(' ');
        due("step by step", counts, "r000 r000 r110 r110 r011 r011 v011 ");
        due("ended", x.winds(), 0);
        x.begin(lay(x, "(w 1 (lambda () (w 3 (lambda () (car 1)))))"));
        due("an error runs no after", x.run(100) + "" + x.winds() + x.entered() + x.left(), "e031");
        due("sound", x.isSound(), true);
        due("its order", notes(x), "(3 1)");
        run(x, "(define f (lambda () (f)))");
        x.begin(lay(x, "(w 1 f)"));
        due("running", x.run(100) + "" + x.winds(), "r1");
        due("sound", x.isSound(), true);
        due("replaced", x.begin(lay(x, "(w 1 f)")) + "" + x.winds() + x.isSound(), "r0true");
        due("running", x.run(100) + "" + x.winds() + x.isSound(), "r1true");
        due("replaced by a wrong one", x.begin(lay(x, "()")) + "" + x.winds() + x.isSound(), "e0true");
        due("counts", x.entered() + " " + x.left(), "5 1");
    }

    private static void jumpsInJumps() {
        WindwardScheme x = noting();
        due("a jump out of an after in a jump", run(x,
                "(call/cc (lambda (o) (wind (lambda () (n 1)) (lambda () (wind (lambda () (n 2)) (lambda () (o 5)) (lambda () (n 3) (o 6)))) (lambda () (n 4)))))"), "6");
        due("the order", notes(x), "(4 3 2 1)");
        due("jumps", x.jumps(), 2);
        due("a continuation of an after in a jump", run(x,
                "(+ 1 (call/cc (lambda (o) (w 1 (lambda () (wind (lambda () 0) (lambda () (o 5)) c))))))"), "6");
        due("the order", notes(x), "(2 0 1)");
        due("goes on with the rest of the jump", run(x, "(k 9)"), "6");
        due("the order", notes(x), "(2 1)");
        due("an abort in an after finds the prompt behind the jump", run(x,
                "(prompt (lambda () (cons 1 (call/cc (lambda (o) (prompt (lambda () (wind (lambda () 0) (lambda () (o 5)) (lambda () (abort 7)))) (lambda (a) (n a))))))) (lambda (a) (cons a 2)))"),
                "(7 . 2)");
        due("no inner handler", notes(x), "()");
    }

    private static void reenteredBefore() {
        WindwardScheme x = noting();
        due("a continuation of a before", run(x, "(wind c (lambda () (n 1)) (lambda () (n 2)))"), "1");
        due("the order", notes(x), "(2 1 0)");
        due("enters the wind again", run(x, "(k 5)"), "1");
        due("the order", notes(x), "(2 1)");
        due("counts", x.entered() + " " + x.left(), "2 2");
        due("a continuation of an after", run(x, "(+ 1 (wind (lambda () (n 1)) (lambda () 6) c))"), "7");
        due("the order", notes(x), "(0 1)");
        due("comes to the value of during again", run(x, "(k 9)"), "7");
        due("counts", x.entered() + " " + x.left() + " " + x.isSound(), "3 3 true");
    }

    private static void prompts() {
        promise = 20;
        all("(prompt (lambda () 1) 2)", "1", "(+ 1 (prompt (lambda () (+ 10 (abort 1))) (lambda (a) (+ a 1))))", "3",
                "(prompt (lambda () (+ 10 (prompt (lambda () (abort 1)) (lambda (a) (abort (+ a 1)))))) (lambda (a) (cons a 5)))", "(2 . 5)",
                "(begin (prompt (lambda () 1) car) (abort 2))", "error w", "(prompt (lambda () (abort 1)) (lambda () 2))", "error a",
                "(prompt (lambda () (abort 1)) 2)", "error n", "(prompt (lambda () (abort (cons 1 2))) car)", "1");
        WindwardScheme x = noting();
        due("winds within are left", run(x, "(w 1 (lambda () (prompt (lambda () (w 3 (lambda () (w 5 (lambda () (abort 7)))))) n)))"), "7");
        due("the order", notes(x), "(2 7 4 6 5 3 1)");
        promise = 34;
        due("jumps", x.jumps(), 1);
        due("not found", run(x, "(abort 1)") + x.jumps(), "error w1");
        due("a prompt in a continuation", run(x, "(prompt (lambda () (+ 1 (c))) (lambda (a) (cons a a)))"), "1");
        due("is come back to again", run(x, "(begin (set! j (lambda () (abort 5))) (prompt (lambda () (k 2)) car))"), "3");
        run(x, "(prompt (lambda () (+ 1 (begin (c) (j)))) (lambda (a) (cons a a)))");
        due("the prompt of the continuation", run(x, "(prompt (lambda () (k 2)) car)"), "(5 . 5)");
        due("an abort in an after of an abort", run(x, "(prompt (lambda () (prompt (lambda () (wind (lambda () 0) (lambda () (abort 1)) (lambda () (abort 2)))) (lambda (a) (n a)))) (lambda (a) (cons a 9)))"),
                "(2 . 9)");
        promise = 27;
        due("handlers as they were there", run(x, "(handle (lambda (a) (cons 1 a)) (lambda () (prompt (lambda () (handle (lambda (a) (cons 2 a)) (lambda () (abort 5)))) (lambda (a) (raise a)))))"),
                "(1 . 5)");
    }

    private static void handlers() {
        promise = 27;
        all("(handle (lambda (a) (+ a 1)) (lambda () (* 2 (raise 5))))", "12", "(handle 1 (lambda () 2))", "2",
                "(handle (lambda (a) (cons 1 a)) (lambda () (handle (lambda (a) (cons 2 (raise a))) (lambda () (raise 3)))))", "(2 1 . 3)",
                "(handle (lambda (a) (cons 1 a)) (lambda () (handle (lambda (a) 0) (lambda () 0)) (raise 4)))", "(1 . 4)",
                "(handle (lambda (a) (cons 1 a)) (lambda () (cons (raise 4) (raise 5))))", "((1 . 4) 1 . 5)",
                "(handle (lambda (a) (raise a)) (lambda () (raise 1)))", "error h", "(begin (handle 1 (lambda () 2)) (raise 1))", "error h",
                "(handle 1 (lambda () (raise 1)))", "error n", "(handle (lambda () 1) (lambda () (raise 1)))", "error a",
                "(call/cc (lambda (k) (handle k (lambda () (+ 1 (raise 7))))))", "7",
                "(begin (call/cc (lambda (k) (handle k (lambda () (+ 1 (raise 7)))))) (raise 8))", "error h");
        WindwardScheme x = noting();
        x.begin(lay(x, "(begin (handle (lambda (a) (not a)) (lambda () (not (raise 1)) (not 2))) (not 3))"));
        StringBuilder counts = new StringBuilder();
        for (int i = 0; i < 8; i++) counts.append(x.run(1)).append(x.handlers()).append(' ');
        due("step by step", counts, "r1 r1 r0 r0 r1 r1 r0 v0 ");
        due("an after in a jump has the handlers of its wind", run(x,
                "(handle (lambda (a) (n 1)) (lambda () (call/cc (lambda (o) (wind (lambda () 0) (lambda () (handle (lambda (a) (n 2)) (lambda () (o 5)))) (lambda () (raise 0)))))))"), "5");
        due("which one", notes(x), "(1)");
        due("a before in a jump, too", run(x,
                "(handle (lambda (a) (n 1)) (lambda () (wind (lambda () (raise 0)) (lambda () (handle (lambda (a) (n 2)) (lambda () (c) (raise 0)))) (lambda () 0))))"), "2");
        due("which one", notes(x), "(2 0 1)");
        due("again", run(x, "(handle (lambda (a) (n 3)) (lambda () (k 5)))"), "2");
        due("which ones", notes(x), "(2 1)");
        due("handlers of the continuation", run(x, "(handle (lambda (a) (n 4)) (lambda () (k 5)))"), "2");
    }

    private static void errors() {
        promise = 25;
        WindwardScheme x = new WindwardScheme();
        String[] letters = {"()", "x", "a", "u", "(1)", "n", "((lambda () 1) 1)", "a", "(car 1)", "t", "(/ 1 0)", "z", "(* 1000000000 2)", "o", "(abort 1)", "w",
            "(raise 1)", "h"};
        for (int i = 0; i < letters.length; i += 2) {
            due(letters[i], run(x, letters[i]), "error " + letters[i + 1]);
            due("state", x.state() + "" + x.run(5), "ee");
            due("value", of(x::valueKind), NO_ELEMENT);
        }
        promise = 24;
        typed(x, "abc");
        due("no value", of(x::writeValue), NO_ELEMENT);
        due("text stays", text(x, 3), "abc");
        promise = 21;
        due("state", x.state(), 'e');
    }

    private static void globals() {
        promise = 28;
        WindwardScheme x = with("(define a (quote (1 b)))", "(define-syntax m ())", "(define f (lambda () 1))");
        due("a value", text(x, x.writeGlobal(30)), "(1 s31)");
        due("a closure", text(x, x.writeGlobal(35)), "#c");
        due("no value", of(() -> x.writeGlobal(31)), NO_ELEMENT);
        due("a keyword", of(() -> x.writeGlobal(0)), NO_ELEMENT);
        due("a macro", of(() -> x.writeGlobal(42)), NO_ELEMENT);
        due("60", of(() -> x.writeGlobal(60)), ARGUMENT);
        due("-1", of(() -> x.writeGlobal(-1)), ARGUMENT);
        run(x, "(define l (lambda (n a) (if (= n 0) a (l (- n 1) (cons 12 a)))))");
        for (int n = 165; n <= 168; n++) run(x, "(define " + (char) ('n' + n - 165) + " (l " + n + " (quote ())))");
        due("496", x.writeGlobal(43), 3 * 165 + 1);
        due("499", x.writeGlobal(44), 3 * 166 + 1);
        due("502", of(() -> x.writeGlobal(45)), UNSUPPORTED);
        due("text stays", x.clear(), 499);
        promise = 29;
        due("meanings", "" + x.meaning(0) + x.meaning(42) + x.meaning(30) + x.meaning(31) + x.meaning(7), "kmv--");
        due("60", of(() -> x.meaning(60)), ARGUMENT);
        due("-1", of(() -> x.meaning(-1)), ARGUMENT);
        run(x, "(define m 1)");
        run(x, "(define-syntax if ())");
        run(x, "(define-syntax car ())");
        due("whatever it was", "" + x.meaning(42) + x.meaning(1) + x.meaning(17), "vmm");
        x.begin(lay(x, "(define z 1)"));
        due("not yet run", x.meaning(55), '-');
        x.begin(lay(x, "(define-syntax z ())"));
        due("not yet run", x.meaning(55), '-');
    }

    private static void counts() {
        WindwardScheme x = new WindwardScheme();
        promise = 35;
        due("none has ended", of(x::valueShare), ARITHMETIC);
        promise = 36;
        due("none has ended", of(x::meanApplications), ARITHMETIC);
        x.begin(lay(x, "(+ 1 (+ 2 3))"));
        due("none has ended", of(x::meanApplications), ARITHMETIC);
        x.run(1);
        promise = 30;
        due("applications", x.applications(), 1);
        x.begin(lay(x, "(+ 1 (+ 2 3))"));
        x.run(5);
        due("applications", x.applications(), 3);
        promise = 36;
        due("a replaced run does not count", x.meanApplications(), 2.0);
        promise = 35;
        due("share", x.valueShare(), 1.0f);
        x.begin(lay(x, "()"));
        due("a wrong program counts", x.valueShare(), 0.5f);
        x.begin(lay(x, "(1)"));
        x.run(1);
        due("share", x.valueShare(), 1.0f / 3.0f);
        promise = 36;
        due("mean", x.meanApplications(), 1.0);
        promise = 30;
        due("an application of what is no procedure", x.applications(), 4);
        run(x, "(apply + (quote (1 2)))");
        due("apply is two", x.applications(), 6);
        run(x, "(prompt (lambda () (wind (lambda () 1) (lambda () (abort 2)) (lambda () 3))) (lambda (a) a))");
        due("prompt, thunk, wind, before, during, abort, after, handler", x.applications(), 14);
        run(x, "(handle (lambda (a) 1) (lambda () (raise 2)))");
        due("handle, thunk, raise, handler", x.applications(), 18);
        promise = 31;
        run(x, "(define-syntax m () ((_ 1) 2) ((_ 3) (m 1)) ((_ 4) ()) ((_ 5) (a ...)))");
        due("2", run(x, "(m 1)") + x.expansions(), "21");
        due("nested", run(x, "(m 3)") + x.expansions(), "23");
        due("no rule", run(x, "(m 9)") + x.expansions(), "error x3");
        due("wrong further on", run(x, "(m 4)") + x.expansions(), "error x4");
        due("wrong template", run(x, "(m 5)") + x.expansions(), "error x5");
        due("the first ones", run(x, "(begin (m 1) () (m 1))") + x.expansions(), "error x6");
        due("by itself first", run(x, "(if (m 1))") + x.expansions(), "error x6");
        due("by itself first", run(x, "(lambda (a a) (m 1))") + x.expansions(), "error x6");
        due("by itself first", run(x, "(set! if (m 1))") + x.expansions(), "error x6");
        due("its head, then its parts", run(x, "(() (m 1))") + x.expansions(), "error x6");
        due("a wrong list", run(x, "(+ (m 1) . 2)") + x.expansions(), "error x6");
        due("not for the eye", expanded(x, "(m 3)") + x.expansions(), "26");
        promise = 37;
        due("sound", x.isSound(), true);
        promise = 32;
        due("entered", x.entered(), 1);
        promise = 33;
        due("left", x.left(), 1);
        promise = 34;
        due("jumps", x.jumps(), 1);
    }
}
