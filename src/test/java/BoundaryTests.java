import java.util.NoSuchElementException;

/**
 * For each sentence of the document that names a boundary: the last case that is still allowed, and the first one that is
 * not, with its exception or letter. Whenever a call is refused, all that can be asked of the object is as it was.
 */
public final class BoundaryTests {
    private static int wrong;
    private static String sentence = "";

    interface Call {
        Object answer();
    }

    private static void due(String what, Object got, Object want) {
        if (!String.valueOf(got).equals(String.valueOf(want))) {
            wrong++;
            System.out.println(sentence + ": " + what + " answered " + got + ", due is " + want);
        }
    }

    private static final String ARGUMENT = "IllegalArgumentException";
    private static final String STATE = "IllegalStateException";
    private static final String INDEX = "IndexOutOfBoundsException";
    private static final String ARITHMETIC = "ArithmeticException";
    private static final String UNSUPPORTED = "UnsupportedOperationException";
    private static final String NO_ELEMENT = "NoSuchElementException";

    private static Object of(Call call) {
        try {
            return call.answer();
        } catch (IllegalArgumentException | IllegalStateException | IndexOutOfBoundsException | ArithmeticException
                | UnsupportedOperationException | NoSuchElementException e) {
            return e.getClass().getSimpleName();
        }
    }

    /** Whatever can be asked of an object without changing it. */
    private static String all(WindwardScheme x) {
        StringBuilder all = new StringBuilder();
        for (int i = 0; !of(at(x, i)).equals(INDEX); i++) all.append(x.charAt(i));
        all.append('|').append(x.data()).append('|').append(of(x::state)).append(of(x::error)).append(of(x::valueKind))
                .append(of(x::valueAmount)).append(of(x::winds)).append(of(x::handlers)).append('|');
        for (int i = 0; i < 60; i++) all.append(x.meaning(i));
        return all.append('|').append(x.applications()).append('|').append(x.expansions()).append('|').append(x.entered())
                .append('|').append(x.left()).append('|').append(x.jumps()).append('|').append(of(x::valueShare)).append('|')
                .append(of(x::meanApplications)).append('|').append(x.isSound()).toString();
    }

    private static Call at(WindwardScheme x, int index) {
        return () -> x.charAt(index);
    }

    private static void refused(WindwardScheme x, String what, String exception, Call call) {
        String before = all(x);
        due(what, of(call), exception);
        due(what + " changed", all(x), before);
    }

    private static final String[] WORDS = {
        "quote", "if", "lambda", "define", "set!", "begin", "define-syntax", "...", "_", "", "+", "-", "*", "/", "<", "=",
        "cons", "car", "cdr", "pair?", "null?", "eq?", "call/cc", "wind", "apply", "not", "prompt", "abort", "handle", "raise"
    };

    private static int lay(WindwardScheme x, String program) {
        StringBuilder text = new StringBuilder();
        for (String piece : program.split("(?<=[() ])|(?=[() ])")) {
            String made = piece;
            for (int i = 0; i < WORDS.length; i++) if (piece.equals(WORDS[i])) made = "s" + i;
            if (piece.matches("[a-z]")) made = "s" + (30 + piece.charAt(0) - 'a');
            text.append(made);
        }
        return RoomTests.lay(x, text.toString());
    }

    /** Runs a program to its end: its value, or "e" and the letter. */
    private static String run(WindwardScheme x, String program) {
        return run(x, lay(x, program));
    }

    private static String run(WindwardScheme x, int program) {
        x.begin(program);
        for (int i = 0; i < 40 && x.state() == 'r'; i++) x.run(500);
        if (x.state() != 'v') return "" + x.state() + of(x::error);
        Object length = of(x::writeValue);
        if (!(length instanceof Integer)) return String.valueOf(length);
        StringBuilder text = new StringBuilder();
        for (int i = 0; i < (Integer) length; i++) text.append(x.charAt(i));
        return text.toString();
    }

    /** Programs, each on a new object, with what they come to. */
    private static void each(String... programs) {
        for (int i = 0; i < programs.length; i += 2) due(programs[i], run(new WindwardScheme(), programs[i]), programs[i + 1]);
    }

    private static String text(WindwardScheme x, int length) {
        StringBuilder text = new StringBuilder();
        for (int i = 0; i < length; i++) text.append(x.charAt(i));
        return text.toString();
    }

    private static void type(WindwardScheme x, String text) {
        x.clear();
        for (int i = 0; i < text.length(); i++) x.type(text.charAt(i));
    }

    public static void main(String[] args) {
        numbers();
        symbols();
        fullData();
        pairs();
        parts();
        texts();
        readings();
        writings();
        forms();
        expansionLimits();
        macroOutcomes();
        patterns();
        rows();
        quotations();
        fuel();
        arguments();
        reckoning();
        errorOrder();
        control();
        aheadOfAProgram();
        ends();
        symbolsAsked();
        System.out.println(wrong == 0 ? "all boundaries hold" : wrong + " answers are not as due");
        if (wrong != 0) System.exit(1);
    }

    private static void numbers() {
        sentence = "numerator and denominator are at most 1000000000, the numerator at least minus that";
        WindwardScheme x = new WindwardScheme();
        int[][] allowed = {{1000000000, 1}, {-1000000000, 1}, {1, 1000000000}, {-1, 1000000000}, {2000000000, 2}, {-2000000000, 2},
            {2, 2000000000}, {1000000000, 999999999}, {-1000000000, -1}, {1, -1000000000}, {Integer.MIN_VALUE, Integer.MIN_VALUE},
            {Integer.MIN_VALUE, 4}, {Integer.MAX_VALUE, Integer.MAX_VALUE}, {0, Integer.MIN_VALUE}, {0, 1}};
        String[] texts = {"1000000000", "-1000000000", "1/1000000000", "-1/1000000000", "1000000000", "-1000000000", "1/1000000000",
            "1000000000/999999999", "1000000000", "-1/1000000000", "1", "-536870912", "1", "0", "0"};
        for (int i = 0; i < allowed.length; i++) {
            due("number", of(numberCall(x, allowed[i][0], allowed[i][1])), i);
            due("text", text(x, x.write(i)), texts[i]);
        }
        int[][] not = {{1000000001, 1}, {-1000000001, 1}, {1, 1000000001}, {2000000002, 2}, {-2000000002, 2}, {2, 2000000002}, {1, -1000000001},
            {-1000000001, -1}, {Integer.MIN_VALUE, 1}, {Integer.MIN_VALUE, 2}, {1, Integer.MIN_VALUE}, {Integer.MAX_VALUE, 1}, {1, Integer.MAX_VALUE}};
        for (int[] pair : not) refused(x, pair[0] + "/" + pair[1], ARGUMENT, numberCall(x, pair[0], pair[1]));
        sentence = "its denominator, not 0";
        for (int top : new int[] {0, 1, -1, Integer.MIN_VALUE, Integer.MAX_VALUE}) refused(x, top + "/0", ARGUMENT, numberCall(x, top, 0));
        sentence = "a fraction in lowest terms with a denominator from 1 on";
        due("6/-4", text(x, x.write(x.number(6, -4))), "-3/2");
        due("-6/-4", text(x, x.write(x.number(-6, -4))), "3/2");
        due("0/-7", text(x, x.write(x.number(0, -7))), "0");
        due("sound", x.isSound(), true);
    }

    private static Call numberCall(WindwardScheme x, int top, int bottom) {
        return () -> x.number(top, bottom);
    }

    private static void symbols() {
        sentence = "Symbols have the numbers 0 to 59";
        WindwardScheme x = new WindwardScheme();
        due("0", x.symbol(0), 0);
        due("59", x.symbol(59), 1);
        for (int not : new int[] {-1, 60, Integer.MIN_VALUE, Integer.MAX_VALUE}) refused(x, "symbol " + not, ARGUMENT, () -> x.symbol(not));
    }

    private static void fullData() {
        sentence = "At most 3000 data";
        for (int kind = 0; kind < 5; kind++) {
            WindwardScheme x = new WindwardScheme();
            for (int i = 0; i < 2999; i++) due("datum", x.empty(), i);
            Call[] calls = {() -> x.number(1, 2), () -> x.symbol(7), () -> x.truth(true), x::empty, () -> x.pair(0, 2998)};
            due("the last one", of(calls[kind]), 2999);
            type(x, "1");
            for (Call call : calls) refused(x, "one too many", STATE, call);
            refused(x, "read", STATE, x::read);
            due("data", x.data(), 3000);
            refused(x, "a wrong number, too", ARGUMENT, () -> x.number(1, 0));
            refused(x, "a wrong symbol, too", ARGUMENT, () -> x.symbol(60));
            refused(x, "a wrong part, too", INDEX, () -> x.pair(0, 3000));
            type(x, "(");
            refused(x, "a wrong text, too", ARGUMENT, x::read);
        }
    }

    private static void pairs() {
        sentence = "none that is laid or read is deeper than 60";
        WindwardScheme x = new WindwardScheme();
        int empty = x.empty();
        int deep = empty;
        for (int depth = 2; depth <= 60; depth++) deep = x.pair(deep, empty);
        int deepest = deep;
        refused(x, "61 by its first part", STATE, () -> x.pair(deepest, empty));
        due("60 by its other part", of(() -> x.pair(empty, deepest)), 60);
        refused(x, "61 by both", STATE, () -> x.pair(deepest, deepest));
        sentence = "none that is laid or read has a size of more than 3000";
        WindwardScheme y = new WindwardScheme();
        int end = y.number(1, 1);
        int list = end;
        for (int size = 3; size <= 2999; size += 2) list = y.pair(end, list);
        int odd = list;
        refused(y, "3001", STATE, () -> y.pair(end, odd));
        int two = y.pair(end, end);
        int shorter = y.part(y.part(odd, false), false);
        int even = y.pair(two, y.part(shorter, false));
        due("2999 in another way", of(() -> y.pair(two, shorter)), even + 1);
        refused(y, "3002", STATE, () -> y.pair(two, odd));
        refused(y, "5999", STATE, () -> y.pair(odd, odd));
        sentence = "if there is no such datum, for either";
        for (int not : new int[] {-1, y.data(), Integer.MIN_VALUE, Integer.MAX_VALUE}) {
            refused(y, "first " + not, INDEX, () -> y.pair(not, 0));
            refused(y, "rest " + not, INDEX, () -> y.pair(0, not));
        }
        due("the last one", of(() -> y.pair(y.data() - 1, end)), STATE);
        due("the first one", of(() -> y.pair(0, 0)), y.data() - 1);
    }

    private static void parts() {
        sentence = "if there is no such datum";
        WindwardScheme x = new WindwardScheme();
        for (int not : new int[] {0, -1, Integer.MAX_VALUE, Integer.MIN_VALUE}) noDatum(x, not);
        x.symbol(3);
        x.pair(0, 0);
        for (int not : new int[] {2, -1}) noDatum(x, not);
        due("the last datum", x.kind(1), 'p');
        sentence = "if it is no pair, something else, no number";
        refused(x, "part", UNSUPPORTED, () -> x.part(0, false));
        refused(x, "amount", UNSUPPORTED, () -> x.amount(1));
        refused(x, "double", UNSUPPORTED, () -> x.asDouble(0));
        int empty = x.empty();
        refused(x, "amount of the empty list", UNSUPPORTED, () -> x.amount(empty));
        due("amount of a symbol", x.amount(0), 3);
        due("amount of true", x.amount(x.truth(true)), 1);
        due("amount of false", x.amount(x.truth(false)), 0);
        due("least amount", x.amount(x.number(-1000000000, 1)), -1000000000);
        sentence = "the numerator divided by the denominator, both converted to double";
        due("1/3", x.asDouble(x.number(1, 3)), 1.0 / 3.0);
        due("least", x.asDouble(x.number(-1, 1000000000)), -1.0 / 1000000000.0);
        due("most", x.asDouble(x.number(1000000000, 1)), 1000000000.0);
    }

    private static void noDatum(WindwardScheme x, int not) {
        refused(x, "kind " + not, INDEX, () -> x.kind(not));
        refused(x, "part " + not, INDEX, () -> x.part(not, true));
        refused(x, "amount " + not, INDEX, () -> x.amount(not));
        refused(x, "double " + not, INDEX, () -> x.asDouble(not));
        refused(x, "alike " + not, INDEX, () -> x.areAlike(not, 0));
        refused(x, "alike to " + not, INDEX, () -> x.areAlike(0, not));
        refused(x, "write " + not, INDEX, () -> x.write(not));
        refused(x, "writeExpanded " + not, INDEX, () -> x.writeExpanded(not));
        refused(x, "begin " + not, INDEX, () -> x.begin(not));
    }

    private static void texts() {
        sentence = "the character, from 32 to 126";
        WindwardScheme x = new WindwardScheme();
        due("32", x.type((char) 32), 1);
        due("126", x.type((char) 126), 2);
        for (int not : new int[] {31, 127, 0, 65535, 32 + 65536 / 2}) refused(x, "character " + not, ARGUMENT, () -> x.type((char) not));
        sentence = "if the text has 500 characters";
        for (int i = 3; i <= 500; i++) due("length", x.type('1'), i);
        refused(x, "one more", STATE, () -> x.type('1'));
        refused(x, "one more and out of range", ARGUMENT, () -> x.type((char) 127));
        sentence = "if there is no such place";
        due("first", x.charAt(0), ' ');
        due("last", x.charAt(499), '1');
        for (int not : new int[] {-1, 500, Integer.MIN_VALUE, Integer.MAX_VALUE}) refused(x, "place " + not, INDEX, () -> x.charAt(not));
        sentence = "Empties the text";
        due("full", x.clear(), 500);
        due("empty", x.clear(), 0);
        refused(x, "place 0", INDEX, () -> x.charAt(0));
        due("again", x.type('x'), 1);
    }

    private static void readings() {
        sentence = "1 to 18 digits, or 1 to 18 behind its \"/\", too; \"s\" and 1 to 18 digits";
        WindwardScheme x = new WindwardScheme();
        String zeros = "0".repeat(17);
        for (String right : new String[] {zeros + "1", "-" + zeros + "1", "1/" + zeros + "1", zeros + "2/" + zeros + "4", "s" + zeros + "1",
            "1000000000", "-1000000000", "1/1000000000", "9".repeat(18) + "/" + "9".repeat(18), "s59", "s0", "0", "-0"}) {
            type(x, right);
            due(right, of(x::read), x.data() - 1);
        }
        for (String not : new String[] {"", " ", zeros + "01", "-" + zeros + "01", "1/" + zeros + "01", "1/", "/1", "-", "s", "s" + zeros + "01", "s60", "1000000001",
            "-1000000001", "1/1000000001", "1/0", "0/0", "9".repeat(18), "#", "#t#f", "#t1", "1#t"}) {
            type(x, not);
            refused(x, not, ARGUMENT, x::read);
        }
        sentence = "A \".\" stands alone between blanks or parentheses, behind one datum or more and ahead of just one";
        for (String right : new String[] {"(1 . 2)", "(1 2 . 3)", "((1). 2)", "(1 .(2))", "(().())"}) {
            type(x, right);
            due(right, of(x::read), x.data() - 1);
        }
        for (String not : new String[] {".", "( . 1)", "(. 1)", "(1 .)", "(1 . )", "(1 . 2 3)", "(1 . 2 . 3)", "(1 . . 2)", "(1 .2)", "(1. 2)", "1 . 2", "(1 .. 2)"}) {
            type(x, not);
            refused(x, not, ARGUMENT, x::read);
        }
        sentence = "Reads one datum from the whole text";
        for (String not : new String[] {"1 2", "(1) 2", "()()", "(1", "1)", "(", ")", "((1)"}) {
            type(x, not);
            refused(x, not, ARGUMENT, x::read);
        }
        sentence = "or it would be deeper than 60";
        type(x, "(".repeat(60) + ")".repeat(60));
        due("60", of(x::read) instanceof Integer, true);
        type(x, "(".repeat(61) + ")".repeat(61));
        refused(x, "61", ARGUMENT, x::read);
        type(x, "(".repeat(60) + "1" + ")".repeat(60));
        refused(x, "61 by a number", ARGUMENT, x::read);
        type(x, "(1 . ".repeat(83) + "1" + ")".repeat(83));
        due("not deep by ends", of(x::read) instanceof Integer, true);
        sentence = "if there would be more than 3000 data";
        for (String text : new String[] {"1", "()", "(1)", "(1 . 2)", "((1) s2 . #t)", "(() ())"}) {
            WindwardScheme counted = new WindwardScheme();
            type(counted, text);
            int needed = counted.read() + 1;
            WindwardScheme y = new WindwardScheme();
            for (int i = 0; i < 3000 - needed; i++) y.empty();
            type(y, text);
            WindwardScheme z = new WindwardScheme();
            for (int i = 0; i < 3001 - needed; i++) z.empty();
            type(z, text);
            refused(z, text, STATE, z::read);
            due(text, of(y::read), 2999);
            refused(y, text + " once more", STATE, y::read);
        }
    }

    private static void writings() {
        sentence = "if it would be longer than 500 characters";
        WindwardScheme x = new WindwardScheme();
        int end = x.empty();
        int list = end;
        for (int i = 0; i < 248; i++) list = x.pair(x.number(1, 1), list);
        int most = x.pair(x.number(12, 1), list);
        int more = x.pair(x.number(123, 1), list);
        type(x, "as it was");
        refused(x, "write", UNSUPPORTED, () -> x.write(more));
        refused(x, "writeExpanded", UNSUPPORTED, () -> x.writeExpanded(more));
        due("write", x.write(most), 500);
        x.clear();
        due("writeExpanded", x.writeExpanded(most), 500);
        int quoted = x.pair(x.symbol(0), x.pair(more, end));
        x.begin(quoted);
        due("run", x.run(1), 'v');
        refused(x, "writeValue", UNSUPPORTED, x::writeValue);
        due("defined", run(x, x.pair(x.symbol(3), x.pair(x.symbol(30), x.pair(quoted, end)))), "#u");
        refused(x, "writeGlobal", UNSUPPORTED, () -> x.writeGlobal(30));
        int right = x.pair(x.symbol(0), x.pair(most, end));
        due("value", run(x, right).length(), 500);
        due("defined", run(x, x.pair(x.symbol(3), x.pair(x.symbol(30), x.pair(right, end)))), "#u");
        x.clear();
        due("writeGlobal", x.writeGlobal(30), 500);
        sentence = "writeExpanded: if it is wrong";
        int wrongToo = x.pair(end, more);
        refused(x, "wrong and too long", ARGUMENT, () -> x.writeExpanded(wrongToo));
        refused(x, "wrong", ARGUMENT, () -> x.writeExpanded(end));
    }

    private static void forms() {
        sentence = "(quote d), (if a b) and (if a b c)";
        each("(quote)", "ex", "(quote 1)", "1", "(quote 1 2)", "ex", "(quote . 1)", "ex", "(if)", "ex", "(if 1)", "ex", "(if 1 2)", "2", "(if #f 2)", "#u",
                "(if #f 2 3)", "3", "(if 1 2 3 4)", "ex", "(if 1 2 . 3)", "ex");
        sentence = "(lambda p a ..) with one a or more, where p is a list of different names, or ends with a name, or is a name";
        each("(lambda)", "ex", "(lambda ())", "ex", "(lambda () 1)", "#c", "(lambda () 1 2)", "#c", "(lambda a 1)", "#c", "(lambda (a) 1)", "#c", "(lambda (a . b) 1)", "#c",
                "(lambda (a a) 1)", "ex", "(lambda (a b a) 1)", "ex", "(lambda (a . a) 1)", "ex", "(lambda 1 1)", "ex", "(lambda #t 1)", "ex", "(lambda (1) 1)", "ex",
                "(lambda (a . 1) 1)", "ex", "(lambda (a b) 1)", "#c", "(lambda (() a) 1)", "ex");
        sentence = "(define n a) and (define-syntax n ..) only as a whole program, n a name";
        each("(define)", "ex", "(define a)", "ex", "(define a 1)", "#u", "(define a 1 2)", "ex", "(define 1 2)", "ex", "(define (a) 1)", "ex", "(begin (define a 1))", "ex",
                "(lambda () (define a 1))", "ex", "(define a (define b 1))", "ex", "(define-syntax)", "ex", "(define-syntax a)", "ex", "(define-syntax a ())", "#u",
                "(define-syntax 1 ())", "ex", "(begin (define-syntax a ()))", "ex");
        sentence = "(set n a) with n a name that is bound or a global variable, with a value or not";
        each("(set!)", "ex", "(set! a)", "ex", "(set! a 1)", "eu", "(set! + 1)", "#u", "(set! a 1 2)", "ex", "(set! if 1)", "ex", "(set! 1 1)", "ex", "((lambda (if) (set! if 1)) 2)", "#u");
        WindwardScheme x = new WindwardScheme();
        due("macro", run(x, "(define-syntax m () ((_) 1))") + run(x, "(set! m 1)") + run(x, "((lambda (m) (set! m 1)) 1)") + run(x, "m") + run(x, "(m)"), "#uex#uex1");
        sentence = "(begin a ..) with one a or more";
        each("(begin)", "ex", "(begin 1)", "1", "(begin 1 2)", "2", "(begin . 1)", "ex", "(begin 1 . 2)", "ex");
        sentence = "Any other list with one part or more is a call. Anything else is wrong";
        each("()", "ex", "(())", "ex", "(1)", "en", "(a . b)", "eu".replace("u", "x"), "(+ 1 . 2)", "ex", "(+ 1 ())", "ex", "quote", "ex", "a", "eu", "1", "1", "#f", "#f");
        sentence = "a global name that is no keyword or macro is its global variable";
        each("(quote quote)", "s0", "((lambda (quote) quote) 1)", "1", "((lambda (quote) (quote 1)) not)", "#f");
    }

    private static void expansionLimits() {
        sentence = "more than 200 expansions of macros in a program";
        WindwardScheme x = new WindwardScheme();
        run(x, "(define-syntax t () ((_) 1))");
        run(x, "(define-syntax z () ((_) (begin (t) (t) (t) (t) (t) (t) (t) (t) (t) (t) (t) (t) (t) (t) (t) (t) (t) (t) (t))))");
        String ten = "(begin (z) (z) (z) (z) (z) (z) (z) (z) (z) (z)";
        due("200", run(x, ten + ")"), "1");
        due("counted", x.expansions(), 200);
        due("201", run(x, ten + " (t))"), "ex");
        due("counted without the one too many", x.expansions(), 400);
        due("200 again", run(x, ten + " 1)"), "1");
        int many = lay(x, ten + " (t))");
        refused(x, "201 written", ARGUMENT, () -> x.writeExpanded(many));
        due("not counted when written", x.expansions(), 600);
        sentence = "a form within more than 100 others";
        WindwardScheme y = new WindwardScheme();
        run(y, "(define-syntax d () ((_ a) " + "(begin ".repeat(10) + "a" + ")".repeat(10) + "))");
        run(y, "(define-syntax e () ((_ a) " + "(d ".repeat(10) + "a" + ")".repeat(10) + "))");
        for (String[] inner : new String[][] {{"(e 1)", "1"}, {"(e a)", "eu"}, {"(e (quote b))", "s31"}, {"(e (begin 1))", "ex"}, {"(begin (e 1))", "ex"}, {"(e (+))", "ex"},
            {"(e (lambda () 1))", "ex"}, {"(e ((lambda () 1)))", "ex"}, {"(e (if 1 2))", "ex"}, {"(e (set! b 1))", "ex"}, {"(e ())", "ex"}}) {
            due(inner[0], run(y, inner[0]), inner[1]);
        }
        sentence = "a form that comes out of a macro stands in the place of what went in";
        run(y, "(define-syntax i () ((_ a) a))");
        due("100", run(y, "(e (i (i (i 1))))"), "1");
        due("101", run(y, "(e (i (begin (i 1))))"), "ex");
    }

    private static void macroOutcomes() {
        sentence = "a datum deeper than 100 .. that comes out of a macro";
        WindwardScheme x = new WindwardScheme();
        int one = x.number(1, 1);
        int end = x.empty();
        // (quote a) is 2 deeper than a around it: the first part is on the first level, a is a first part of the second pair.
        run(x, "(define-syntax d () ((_ a) (quote " + "(".repeat(49) + "a" + ")".repeat(49) + ")))");
        int deep = one;
        for (int depth = 1; depth < 50; depth++) deep = x.pair(deep, end);
        int use = x.pair(x.symbol(33), x.pair(deep, end));
        due("100", x.begin(use), 'r');
        int deeper = x.pair(deep, end);
        int useDeeper = x.pair(x.symbol(33), x.pair(deeper, end));
        due("101", "" + x.begin(useDeeper) + x.error(), "ex");
        due("it counts", x.expansions(), 2);
        sentence = "or with a size of more than 3000 that comes out of a macro";
        run(x, "(define-syntax l () ((_ a) (quote (a . a))) ((_ a b) (quote (a b . a))))");
        int list = one;
        for (int size = 1; size < 1497; size += 2) list = x.pair(one, list);
        // (quote (a . a)) has a size of 2 n + 5, (quote (a b . a)) with b a number 2 n + 7.
        due("2 times 1497 and 5", x.begin(x.pair(x.symbol(41), x.pair(list, end))), 'r');
        int useLarger = x.pair(x.symbol(41), x.pair(list, x.pair(one, end)));
        due("2 times 1497 and 7", "" + x.begin(useLarger) + x.error(), "ex");
        run(x, "(define-syntax l () ((_ a) (quote (a . a))) ((_ a b) (quote ((a . a)))) ((_ a b c) ((a . a))))");
        due("3001", "" + x.begin(useLarger) + x.error(), "ex");
        sentence = "none of it is laid";
        due("sound", x.isSound(), true);
    }

    private static void patterns() {
        sentence = "rules of a pattern, which is a pair, and a template";
        each("(define-syntax m (a))", "#u", "(define-syntax m a)", "ex", "(define-syntax m (1))", "ex", "(define-syntax m (a . b))", "ex", "(define-syntax m () ((_) 1))", "#u",
                "(define-syntax m () ((_)))", "ex", "(define-syntax m () ((_) 1 2))", "ex", "(define-syntax m () (_ 1))", "ex", "(define-syntax m () (() 1))", "ex",
                "(define-syntax m () ((_) . 1))", "ex", "(define-syntax m () 1)", "ex", "(define-syntax m () ((_) 1) 2)", "ex", "(define-syntax m () . 1)", "ex");
        sentence = "another name but an ellipsis, a pattern variable, which .. can be there once alone";
        each("(define-syntax m () ((_ a b) 1))", "#u", "(define-syntax m () ((_ a a) 1))", "ex", "(define-syntax m () ((_ a (b a)) 1))", "ex", "(define-syntax m () ((_ (a b ...) b) 1))", "ex",
                "(define-syntax m () ((a a) 1))", "#u", "(define-syntax m (a) ((_ a a) 1))", "#u", "(define-syntax m () ((_ _ _) 1))", "#u", "(define-syntax m () ((_ a . a) 1))", "ex");
        sentence = "a pair of a pattern and a pair of an ellipsis and the empty list";
        each("(define-syntax m () ((_ a ...) 1))", "#u", "(define-syntax m () ((_ ...) 1))", "ex", "(define-syntax m () ((_ a ... b) 1))", "ex", "(define-syntax m () ((_ a ... . b) 1))", "ex",
                "(define-syntax m () ((_ a ... ...) 1))", "ex", "(define-syntax m () ((_ . ...) 1))", "ex", "(define-syntax m () ((... a) 1))", "#u", "(define-syntax m () ((_ (a ...) b ...) 1))", "#u");
        sentence = "The first rule fits whose pattern matches; if none does, the form is wrong";
        WindwardScheme x = new WindwardScheme();
        run(x, "(define-syntax m (k) ((_) 0) ((_ 1) 1) ((_ k) 2) ((_ ()) 3) ((_ (a . b)) 4) ((_ a) 5) ((_ a b ...) 6))");
        String[] uses = {"(m)", "0", "(m 1)", "1", "(m 2)", "5", "(m k)", "2", "(m ())", "3", "(m (1))", "4", "(m #t)", "5", "(m 1 2)", "6", "(m 1 2 3)", "6", "(m . 1)", "ex", "(m 1 . 2)", "ex"};
        for (int i = 0; i < uses.length; i += 2) due(uses[i], run(x, uses[i]), uses[i + 1]);
        due("counted if one fits", x.expansions(), 9);
        run(x, "(define-syntax m ())");
        due("no rules", run(x, "(m)") + x.expansions(), "ex9");
        sentence = "a pattern as deep as can be laid";
        WindwardScheme y = new WindwardScheme();
        int end = y.empty();
        int variable = y.symbol(30);
        int pattern = variable;
        int template = variable;
        int form = y.number(7, 1);
        for (int i = 0; i < 56; i++) {
            pattern = y.pair(pattern, i < 3 ? y.pair(y.symbol(7), end) : end);
            form = y.pair(form, end);
            template = i < 3 ? y.pair(template, y.pair(y.symbol(7), end)) : y.pair(template, end);
        }
        int quoted = y.pair(y.symbol(0), y.pair(template, end));
        int rule = y.pair(y.pair(y.symbol(8), y.pair(pattern, end)), y.pair(quoted, end));
        int definition = y.pair(y.symbol(6), y.pair(y.symbol(42), y.pair(end, y.pair(rule, end))));
        due("definition", run(y, definition), "#u");
        int use = y.pair(y.symbol(42), y.pair(form, end));
        due("use", run(y, use), "(".repeat(56) + "7" + ")".repeat(56));
        due("deeper cannot be laid", of(() -> y.pair(definition, end)), STATE);
    }

    private static void rows() {
        sentence = "The rows must be of the same length, and there must be one; a variable that is a row still is wrong";
        WindwardScheme x = new WindwardScheme();
        String[] cases = {
            "(_ (a ...) b ...)", "((a b) ...)", "(m (1 2) 3 4)", "((1 3) (2 4))", "(_ (a ...) b ...)", "((a b) ...)", "(m (1 2) 3)", "ex",
            "(_ (a ...) b ...)", "((a b) ...)", "(m ())", "()", "(_ (a ...) b ...)", "((a b) ...)", "(m () 1)", "ex", "(_ a)", "(a ...)", "(m 1)", "ex", "(_)", "(1 ...)", "(m)", "ex",
            "(_ a ...)", "a", "(m)", "ex", "(_ a ...)", "(a)", "(m 1)", "ex", "(_ (a ...) ...)", "(a ...)", "(m (1))", "ex", "(_ (a ...) ...)", "(a ...)", "(m)", "()",
            "(_ (a ...) ...)", "((a ...) ...)", "(m () (1))", "(() (1))", "(_ a ...)", "(a ... ...)", "(m)", "(s7)", "(_ a ...)", "(a ... . ...)", "(m 1)", "(1 . s7)", "(_ a ...)", "(a ...)", "(m)", "()"
        };
        for (int i = 0; i < cases.length; i += 4) {
            due("definition", run(x, "(define-syntax m () (" + cases[i] + " (quote " + cases[i + 1] + ")))"), "#u");
            due(cases[i] + " " + cases[i + 1] + " " + cases[i + 2], run(x, cases[i + 2]), cases[i + 3]);
        }
        sentence = "hundreds of rows without items in hundreds of places";
        WindwardScheme y = new WindwardScheme();
        int end = y.empty();
        int dots = y.symbol(7);
        int variable = y.symbol(30);
        int inner = end;
        for (int i = 0; i < 500; i++) inner = y.pair(variable, y.pair(dots, inner));
        int template = y.pair(y.symbol(0), y.pair(y.pair(inner, y.pair(dots, end)), end));
        int pattern = y.pair(y.symbol(8), y.pair(y.pair(variable, y.pair(dots, end)), y.pair(dots, end)));
        int rule = y.pair(pattern, y.pair(template, end));
        due("definition", run(y, y.pair(y.symbol(6), y.pair(y.symbol(42), y.pair(end, y.pair(rule, end))))), "#u");
        int form = end;
        for (int i = 0; i < 1490; i++) form = y.pair(end, form);
        due("use", run(y, y.pair(y.symbol(42), form)), UNSUPPORTED);
        due("comes to a list", y.valueKind(), 'p');
    }

    private static void quotations() {
        sentence = "for a pair with a renamed symbol in it a pair that is made anew, once for this form";
        WindwardScheme x = new WindwardScheme();
        run(x, "(define-syntax m () ((_ a) (quote (a k (k) (k)))))");
        due("marks off", run(x, "(m (1))"), "((1) s40 (s40) (s40))");
        run(x, "(define-syntax n () ((_) (lambda () (quote ((k) (k) k)))))");
        due("defined", run(x, "(define f (n))") + run(x, "(define g (n))"), "#u#u");
        due("once for this form", run(x, "(eq? (f) (f))"), "#t");
        due("its parts, too", run(x, "(eq? (car (f)) (car (f)))"), "#t");
        due("its ends, too", run(x, "(eq? (cdr (cdr (f))) (cdr (cdr (f))))"), "#t");
        due("two pairs are two", run(x, "(eq? (car (f)) (car (cdr (f))))"), "#f");
        due("for another form another one", run(x, "(eq? (f) (g))"), "#f");
        due("its parts, too", run(x, "(eq? (car (f)) (car (g)))"), "#f");
        due("a list of its parts", run(x, "(apply (lambda a a) (f))"), "((s40) (s40) s40)");
        due("is another list", run(x, "(eq? (apply (lambda a a) (f)) (f))"), "#f");
        due("of the same parts", run(x, "(eq? (car (apply (lambda a a) (f))) (car (f)))"), "#t");
        due("and ends of its own", run(x, "(eq? (cdr (apply (lambda a a) (f))) (cdr (f)))"), "#f");
        run(x, "(define-syntax n () ((_ a) (lambda () (quote (k . a)))))");
        due("defined", run(x, "(define f (n (1 2)))"), "#u");
        due("all else stays", run(x, "(eq? (cdr (f)) (cdr (f)))") + run(x, "(f)"), "#t(s40 1 2)");
        due("copied", run(x, "(apply (lambda a (cons (eq? (cdr a) (cdr (f))) a)) (f))"), "(#f s40 1 2)");
    }

    private static void fuel() {
        sentence = "the number of applications, 1 to 500";
        WindwardScheme x = new WindwardScheme();
        run(x, "(define f (lambda (n) (f n)))");
        int loop = lay(x, "(f 1)");
        x.begin(loop);
        for (int not : new int[] {0, 501, -1, Integer.MIN_VALUE, Integer.MAX_VALUE}) refused(x, "fuel " + not, ARGUMENT, () -> x.run(not));
        due("1", x.run(1) + " " + x.applications(), "r 1");
        due("500", x.run(500) + " " + x.applications(), "r 501");
        sentence = "Goes on with the run until it ends, or the fuel is used up and another application would come";
        run(x, "(define a 0)");
        x.begin(lay(x, "(begin (not 1) (set! a 1) (not 2) (set! a 2) 3)"));
        due("1 of 2", x.run(1) + text(x, x.writeGlobal(30)), "r1");
        due("2 of 2", x.run(1) + text(x, x.writeGlobal(30)), "v2");
        sentence = "If it has ended, nothing is done";
        String before = all(x);
        due("again", x.run(500), 'v');
        due("nothing", all(x), before);
        x.begin(lay(x, "(begin (not 1) (car 1))"));
        due("an error at the last unit", x.run(1) + "" + x.run(1) + x.error(), "ret");
        before = all(x);
        due("again", x.run(1), 'e');
        due("nothing", all(x), before);
        due("ended and out of range", of(() -> x.run(501)), ARGUMENT);
        x.begin(lay(x, "7"));
        due("without applications", x.run(1), 'v');
    }

    private static void arguments() {
        sentence = "A closure takes its arguments, those that are left as a list for the rest";
        each("((lambda () 1))", "1", "((lambda () 1) 2)", "ea", "((lambda (a) a))", "ea", "((lambda (a) a) 1)", "1", "((lambda (a) a) 1 2)", "ea", "((lambda (a b) b) 1)", "ea",
                "((lambda a a))", "()", "((lambda a a) 1)", "(1)", "((lambda (a . b) b))", "ea", "((lambda (a . b) b) 1)", "()", "((lambda (a . b) b) 1 2)", "(2)",
                "((lambda a a) 1 2 3 4 5 6 7 8 9 10 11 12)", "(1 2 3 4 5 6 7 8 9 10 11 12)", "((lambda (a b . c) c) 1 2 3 4 5 6 7)", "(3 4 5 6 7)");
        sentence = "apply takes a procedure and a list";
        each("(apply + (quote (1 2)))", "3", "(apply +)", "ea", "(apply + 1 2)", "ea", "(apply + 1)", "et", "(apply + (quote (1 . 2)))", "et", "(apply + (quote (1 2 . 3)))", "et",
                "(apply (lambda a a) (quote ()))", "()", "(apply 1 (quote ()))", "en", "(apply 1 2)", "et", "(apply (lambda () 5) (quote ()))", "5", "(apply (lambda () 5) (quote (1)))", "ea");
        sentence = "All others take as many arguments as told";
        String[] ones = {"car", "cdr", "pair?", "null?", "not"};
        for (String one : ones) each("(" + one + ")", "ea", "(" + one + " (quote (1)) 2)", "ea");
        String[] twos = {"+", "-", "*", "/", "<", "=", "cons", "eq?"};
        for (String two : twos) each("(" + two + ")", "ea", "(" + two + " 1)", "ea", "(" + two + " 1 2 3)", "ea", "(pair? (cons 1 (" + two + " 1 2)))", "#t");
        each("(call/cc)", "ea", "(call/cc not not)", "ea", "(call/cc not)", "#f", "(wind + +)", "ea", "(wind + + + +)", "ea", "(prompt +)", "ea", "(prompt + + +)", "ea", "(abort)", "ea", "(abort 1 2)", "ea",
                "(handle +)", "ea", "(handle + + +)", "ea", "(raise)", "ea", "(raise 1 2)", "ea");
        sentence = "To apply a continuation to one value";
        each("(call/cc (lambda (k) (k)))", "ea", "(call/cc (lambda (k) (k 1)))", "1", "(call/cc (lambda (k) (k 1 2)))", "ea", "(call/cc (lambda (k) (apply k (quote (5)))))", "5",
                "(call/cc (lambda (k) (apply k (quote ()))))", "ea", "(call/cc (lambda (k) (apply k (quote (5 6)))))", "ea");
    }

    private static void reckoning() {
        sentence = "'o' a number out of range";
        each("(+ 999999999 1)", "1000000000", "(+ 1000000000 1)", "eo", "(- -999999999 1)", "-1000000000", "(- -1000000000 1)", "eo", "(* 500000000 2)", "1000000000", "(* 500000001 2)", "eo",
                "(* -500000000 2)", "-1000000000", "(* -500000001 2)", "eo", "(/ 1 1000000000)", "1/1000000000", "(/ 1/2 1000000000)", "eo", "(/ 1/2 500000000)", "1/1000000000", "(/ 1 -1000000000)", "-1/1000000000",
                "(* 1/1000000000 1000000000)", "1", "(+ 1/1000000000 1/1000000000)", "1/500000000", "(+ 1/999999999 1/1000000000)", "eo", "(* 1000000000 1000000000)", "eo", "(* -1000000000 1000000000)", "eo",
                "(/ 1000000000 1/1000000000)", "eo", "(/ -1000000000 1/1000000000)", "eo", "(- 1000000000 -1000000000)", "eo", "(- 1000000000 1000000000)", "0", "(+ 1000000000/999999999 -1000000000/999999999)", "0",
                "(< 999999999/1000000000 1)", "#t", "(< 1000000000/999999999 1)", "#f", "(= 1000000000/999999999 1000000000/999999999)", "#t", "(< -1000000000 1000000000)", "#t", "(< 1 1)", "#f");
        sentence = "'z' a division by 0";
        each("(/ 1 0)", "ez", "(/ 0 0)", "ez", "(/ 0 1)", "0", "(/ 1000000000 0)", "ez", "(/ 0 -1000000000)", "0");
    }

    private static void errorOrder() {
        sentence = "For a primitive, 'a' comes ahead of 't', and 't' ahead of others";
        each("(+ #t)", "ea", "(+ #t 1)", "et", "(+ 1 #t)", "et", "(/ #t 0)", "et", "(/ 0 #t)", "et", "(/ 1 0 #t)", "ea", "(car)", "ea", "(car 1)", "et", "(car (quote ()))", "et", "(cdr #f)", "et", "(< 1 (quote a))", "et",
                "(= #t #t)", "et", "(* (quote ()) 1000000000)", "et", "(apply 1 2 3)", "ea", "(abort)", "ea", "(raise)", "ea", "(apply)", "ea");
        sentence = "A run ends with the first error";
        each("(+ (car 1) a)", "et", "(+ a (car 1))", "eu", "(1 (car 1))", "et", "(a (car 1))", "eu", "((car 1) a)", "et", "(begin (car 1) (/ 1 0))", "et");
        sentence = "'n' an application of what is no procedure";
        each("(1)", "en", "(#t 1)", "en", "((quote a))", "en", "((quote ()) 1 2 3)", "en", "((if #f 1))", "en", "((cons + 1) 1 2)", "en");
        sentence = "To set a global variable that has no value is the error 'u', behind the evaluation of what it would be set to";
        each("(set! a 1)", "eu", "(set! a (car 1))", "et", "(set! a (b))", "eu", "(set! + 1)", "#u");
    }

    private static void control() {
        sentence = "'w' an abort without a prompt";
        each("(abort 1)", "ew", "(prompt (lambda () (abort 1)) (lambda (a) a))", "1", "(begin (prompt (lambda () 1) not) (abort 1))", "ew", "(prompt (lambda () 1) (lambda (a) 2))", "1",
                "(prompt (lambda () (abort 1)) (lambda (a) (abort 2)))", "ew");
        sentence = "'h' a raise without a handler";
        each("(raise 1)", "eh", "(handle (lambda (a) a) (lambda () (raise 1)))", "1", "(handle (lambda (a) (raise a)) (lambda () (raise 1)))", "eh", "(begin (handle not (lambda () 1)) (raise 1))", "eh");
        sentence = "Errors run no afters";
        WindwardScheme x = new WindwardScheme();
        run(x, "(define a 0)");
        due("error", run(x, "(wind (lambda () 0) (lambda () (car 1)) (lambda () (set! a 1)))") + text(x, x.writeGlobal(30)), "et0");
        due("entered and not left", x.entered() + " " + x.left() + " " + x.winds() + " " + x.isSound(), "1 0 0 true");
        sentence = "continuations that were applied, and aborts that found a prompt";
        due("no jump", x.jumps(), 0);
        run(x, "(abort 1)");
        due("not found", x.jumps(), 0);
        run(x, "(call/cc (lambda (k) (k)))");
        due("a wrong number", x.jumps(), 0);
        run(x, "(call/cc (lambda (k) 1))");
        due("not applied", x.jumps(), 0);
        run(x, "(call/cc (lambda (k) (k 1)))");
        due("applied", x.jumps(), 1);
        run(x, "(prompt (lambda () (abort 1)) (lambda () 1))");
        due("found", x.jumps(), 2);
    }

    private static void aheadOfAProgram() {
        sentence = "if no program was begun";
        WindwardScheme x = new WindwardScheme();
        x.empty();
        Call[] calls = {() -> x.run(1), () -> x.run(0), x::state, x::valueKind, x::valueAmount, x::writeValue, x::error, x::winds, x::handlers};
        for (Call call : calls) refused(x, "call", STATE, call);
        sentence = "if none has ended";
        refused(x, "share", ARITHMETIC, x::valueShare);
        refused(x, "mean", ARITHMETIC, x::meanApplications);
        x.begin(x.number(1, 1));
        refused(x, "share while one runs", ARITHMETIC, x::valueShare);
        refused(x, "mean while one runs", ARITHMETIC, x::meanApplications);
        sentence = "if it did not end with a value; with an error";
        Call[] ofValues = {x::valueKind, x::valueAmount, x::writeValue};
        for (Call call : ofValues) refused(x, "while it runs", NO_ELEMENT, call);
        refused(x, "error while it runs", NO_ELEMENT, x::error);
        due("winds", x.winds() + x.handlers(), 0);
        x.run(1);
        due("value", "" + x.valueKind() + x.valueAmount() + x.writeValue(), "n11");
        refused(x, "error of a value", NO_ELEMENT, x::error);
        due("share", x.valueShare(), 1.0f);
        due("mean", x.meanApplications(), 0.0);
        x.begin(0);
        for (Call call : ofValues) refused(x, "of an error", NO_ELEMENT, call);
        due("error", x.error(), 'x');
        due("share", x.valueShare(), 0.5f);
        sentence = "if it is no number";
        x.begin(x.truth(true));
        x.run(1);
        refused(x, "amount", UNSUPPORTED, x::valueAmount);
    }

    private static void ends() {
        sentence = "0 if the run has ended";
        WindwardScheme x = new WindwardScheme();
        run(x, "(define f (lambda () (f)))");
        x.begin(lay(x, "(handle not (lambda () (wind (lambda () 1) f (lambda () 2))))"));
        StringBuilder steps = new StringBuilder();
        for (int i = 0; i < 5; i++) steps.append(x.run(1)).append(x.handlers()).append(x.winds()).append(' ');
        due("handlers and winds", steps, "r10 r10 r10 r11 r11 ");
        x.begin(lay(x, "(handle not (lambda () (wind (lambda () 1) (lambda () (car 1)) (lambda () 2))))"));
        due("begun", x.handlers() + x.winds(), 0);
        due("ended", x.run(500) + " " + x.handlers() + " " + x.winds(), "e 0 0");
        x.begin(lay(x, "(handle not (lambda () (wind (lambda () 1) (lambda () 7) (lambda () 2))))"));
        due("ended", x.run(500) + " " + x.handlers() + " " + x.winds(), "v 0 0");
        due("sound", x.isSound() + " " + x.entered() + " " + x.left(), "true 3 1");
    }

    private static void symbolsAsked() {
        sentence = "the number of its symbol, 0 to 59";
        WindwardScheme x = new WindwardScheme();
        type(x, "text");
        for (int not : new int[] {-1, 60, Integer.MIN_VALUE, Integer.MAX_VALUE}) {
            refused(x, "meaning " + not, ARGUMENT, () -> x.meaning(not));
            refused(x, "writeGlobal " + not, ARGUMENT, () -> x.writeGlobal(not));
        }
        due("0 and 59", "" + x.meaning(0) + x.meaning(59), "k-");
        sentence = "if it is a keyword or a macro, or has no value";
        for (int not : new int[] {0, 6, 7, 8, 9, 30, 59}) refused(x, "writeGlobal " + not, NO_ELEMENT, () -> x.writeGlobal(not));
        due("10", x.writeGlobal(10), 4);
        due("29", x.writeGlobal(29), 4);
        run(x, "(define-syntax + ())");
        refused(x, "a macro", NO_ELEMENT, () -> x.writeGlobal(10));
        due("macro", x.meaning(10), 'm');
        run(x, "(define quote 1)");
        due("no keyword any more", x.meaning(0) + text(x, x.writeGlobal(0)), "v1");
    }
}
