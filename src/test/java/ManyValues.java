/**
 * Programs that hold as many values at once as the applications of 512 calls can bring together: none of them may end
 * for that, and what waits must be the right values when it is come back to. Each must fit in the room.
 */
public final class ManyValues {
    private static int wrong;

    private static void due(String what, Object got, Object want) {
        if (!String.valueOf(got).equals(String.valueOf(want))) {
            wrong++;
            System.out.println(what + " answered " + got + ", due is " + want);
        }
    }

    public static void main(String[] args) throws IllegalAccessException {
        partsThatWait();
        argumentsThatStay();
        listsThatStay();
        controlThatWaits();
        comeBackTo();
        System.out.println(wrong == 0 ? "all values are held" : wrong + " answers are not as due");
        if (wrong != 0) System.exit(1);
    }

    /** Runs the last program for as many calls as there are: it never ends. */
    private static void endless(String what, String... programs) throws IllegalAccessException {
        WindwardScheme x = new WindwardScheme();
        for (int i = 0; i < programs.length - 1; i++) due(what + " " + i, RoomTests.finish(x, programs[i]), 'v');
        long before = x.applications();
        x.begin(RoomTests.lay(x, programs[programs.length - 1]));
        char state = x.state();
        for (int i = 0; i < 505 && state == 'r'; i++) state = x.run(500);
        due(what, state == 'e' ? "e " + x.error() : String.valueOf(state), 'r');
        due(what + " applications", x.applications() - before, 505 * 500);
        due(what + " sound", x.isSound(), true);
        RoomTests.room(what, x, 7200000);
    }

    /** Runs the last program until it comes to this value. */
    private static void comesTo(String what, String value, String... programs) throws IllegalAccessException {
        WindwardScheme x = new WindwardScheme();
        for (int i = 0; i < programs.length - 1; i++) due(what + " " + i, RoomTests.finish(x, programs[i]), 'v');
        x.begin(RoomTests.lay(x, programs[programs.length - 1]));
        char state = x.state();
        for (int i = 0; i < 505 && state == 'r'; i++) state = x.run(500);
        due(what, state == 'e' ? "e " + x.error() : String.valueOf(state), 'v');
        if (state == 'v') due(what + " value", RoomTests.valueOf(x), value);
        RoomTests.room(what, x, 7200000);
    }

    private static String times(int count, String word) {
        StringBuilder text = new StringBuilder();
        for (int i = 0; i < count; i++) text.append(word).append(' ');
        return text.toString();
    }

    /** Symbols from one on, in a form in which %d stands for the number. */
    private static String symbols(int from, int count, String form) {
        StringBuilder text = new StringBuilder();
        for (int i = 0; i < count; i++) text.append(form.replace("%d", String.valueOf(from + i))).append(' ');
        return text.toString();
    }

    private static void partsThatWait() throws IllegalAccessException {
        String[] parts = {"1", "s40", "s31", "(s0 (1 2))", "(s2 () 1)", "(s1 #t 1 2)", "(s1 s31 s31)", "(s5 1)", "(s5 1 s40)",
            "(s4 s31 1)", "s16", "(s1 #f 1)"};
        for (String part : parts) {
            endless("parts " + part, "(s3 s40 1)", "(s3 s30 (s2 (s31) (s10 " + times(20, part) + "(s30 s31))))", "(s30 1)");
        }
        endless("a number of its own", "(s3 s30 (s2 (s31) (s10 " + times(20, "s31") + "(s30 (s10 1 s31)))))", "(s30 1)");
        endless("a variable that is set", "(s3 s30 (s2 (s31) (s4 s31 2) (s10 " + times(20, "s31") + "(s30 s31))))", "(s30 1)");
        endless("a global variable that is set", "(s3 s40 1)",
                "(s3 s30 (s2 () (s4 s40 (s10 s40 1)) (s10 " + times(20, "s40") + "(s30))))", "(s30)");
        endless("calls in calls", "(s3 s30 (s2 () " + times(20, "(s10 1") + "(s30)" + times(20, ")") + "))", "(s30)");
        endless("forms in forms", "(s3 s30 (s2 () " + times(20, "(s5 (s1") + "(s30)" + times(20, "1) 1)") + "))", "(s30)");
    }

    private static void argumentsThatStay() throws IllegalAccessException {
        String parameters = symbols(31, 18, "s%d");
        String[] arguments = {"1", "(s2 () 1)", "s50", "(s1 #t 1 2)", "s31"};
        for (String argument : arguments) {
            endless("arguments " + argument, "(s3 s50 1)",
                    "(s3 s30 (s2 (" + parameters + ") (s10 1 (s30 " + times(18, argument) + "))))",
                    "(s30 " + times(18, "1") + ")");
        }
        endless("handed on", "(s3 s30 (s2 (" + parameters + ") (s10 1 (s30 " + parameters + "))))",
                "(s30 " + times(18, "1") + ")");
        endless("closed over", "(s3 s50 (s0 ()))", "(s3 s30 (s2 (" + parameters + ") (s4 s50 (s16 (s2 () s31) s50)) "
                + "(s30 " + parameters + ")))", "(s30 " + times(18, "1") + ")");
        for (int count = 1; count <= 9; count++) {
            endless(count + " closures", "(s3 s30 (s2 (" + symbols(31, count, "s%d") + ") (s10 1 (s30 "
                    + times(count, "(s2 () 1)") + "))))", "(s30 " + times(count, "1") + ")");
        }
    }

    private static void listsThatStay() throws IllegalAccessException {
        endless("rests", "(s3 s50 (s0 ()))", "(s3 s30 (s2 s31 (s4 s50 (s16 s31 s50)) (s30 " + times(20, "1") + ")))", "(s30 1)");
        endless("lists", "(s3 s50 (s0 ()))", "(s3 s51 (s2 s31 s31))",
                "(s3 s30 (s2 (s31) (s4 s50 (s16 (s51 " + times(20, "s31") + ") s50)) (s30 1)))", "(s30 1)");
        endless("copies", "(s3 s50 (s0 ()))", "(s3 s51 (s0 (" + times(100, "1") + ")))",
                "(s3 s30 (s2 s31 (s4 s50 (s16 s31 s50)) (s24 s30 s31)))", "(s24 s30 s51)");
        endless("applied", "(s3 s51 (s0 (" + times(18, "1") + ")))",
                "(s3 s30 (s2 (" + symbols(31, 18, "s%d") + ") (s10 s31 (s24 s30 s51))))", "(s24 s30 s51)");
        endless("a list of a list", "(s3 s51 (s2 s31 s31))", "(s3 s30 (s2 (s31 s32) (s30 (s51 s32 s32) 1)))", "(s30 1 2)");
        endless("applied to its own", "(s3 s51 (s2 s31 s31))",
                "(s3 s30 (s2 (s31 s32 s33) (s10 1 (s24 s30 (s51 s31 s32 s33)))))", "(s30 1 2 3)");
    }

    private static void controlThatWaits() throws IllegalAccessException {
        endless("winds", "(s3 s30 (s2 () (s23 (s2 () 1) (s2 () (s10 1 (s30))) (s2 () 1))))", "(s30)");
        endless("handlers", "(s3 s30 (s2 () (s28 (s2 (s31) 1) (s2 () (s10 1 (s30))))))", "(s30)");
        endless("prompts", "(s3 s30 (s2 () (s26 (s2 () (s10 1 (s30))) (s2 (s31) 1))))", "(s30)");
        endless("continuations", "(s3 s30 (s2 (s31) (s10 1 1 1 1 1 1 1 1 1 1 1 1 1 (s22 s30))))", "(s30 1)");
        endless("raising", "(s3 s30 (s2 (s31) (s10 1 1 1 (s28 s30 (s2 () (s29 s31))))))", "(s30 1)");
        manyJumps();
    }

    /** Each jump enters many winds again; in the before of the first one it is kept and left, for another one to begin. */
    private static void manyJumps() throws IllegalAccessException {
        WindwardScheme x = new WindwardScheme();
        due("s50", RoomTests.finish(x, "(s3 s50 (s0 ()))"), 'v');
        due("s51", RoomTests.finish(x, "(s3 s51 #f)"), 'v');
        due("s52", RoomTests.finish(x, "(s3 s52 #f)"), 'v');
        due("s53", RoomTests.finish(x, "(s3 s53 #f)"), 'v');
        due("s41", RoomTests.finish(x, "(s3 s41 (s2 () (s1 s52 (s22 (s2 (s31) (s5 (s4 s50 (s16 s31 s50)) (s53 1)))) 0)))"), 'v');
        due("s30", RoomTests.finish(x, "(s3 s30 (s2 (s31) (s1 (s14 s31 20000) (s23 s41 (s2 () (s30 (s10 s31 1))) s41) "
                + "(s22 (s2 (s32) (s4 s51 s32))))))"), 'v');
        x.begin(RoomTests.lay(x, "(s30 0)"));
        char state = 'r';
        for (int i = 0; i < 400 && state == 'r'; i++) state = x.run(500);
        due("winds", state, 'v');
        due("entered", x.entered(), 20000);
        due("s33", RoomTests.finish(x, "(s3 s33 (s2 () (s5 (s22 (s2 (s34) (s5 (s4 s53 s34) (s51 1)))) (s33))))"), 'v');
        due("s52 set", RoomTests.finish(x, "(s4 s52 #t)"), 'v');
        x.begin(RoomTests.lay(x, "(s33)"));
        for (int i = 0; i < 100; i++) due("jump " + i, x.run(500), 'r');
        due("entered again", x.entered(), 20000);
        due("jumps", x.jumps() > 5000, true);
        RoomTests.room("many jumps", x, 7200000);
    }

    /** What waits is come back to, and goes into what comes out. */
    private static void comeBackTo() throws IllegalAccessException {
        comesTo("sums", "450000000",
                "(s3 s30 (s2 (s31) (s1 (s14 s31 30000) (s10 s31 (s30 (s10 s31 1))) 15000)))", "(s30 0)");
        comesTo("sums of waiting variables", "160000", "(s3 s40 1)", "(s3 s41 (s2 (s31 s32 s33 s34) (s10 s31 (s10 s32 (s10 s33 s34)))))",
                "(s3 s30 (s2 (s31) (s4 s40 (s11 5 s40)) (s1 (s14 s31 20000) (s41 s40 (s11 5 s40) 3 (s30 (s10 s31 1))) 0)))",
                "(s30 0)");
        comesTo("sums of ifs and rests", "90000", "(s3 s41 (s2 s31 (s10 (s17 s31) (s10 (s17 (s18 s31)) (s17 (s18 (s18 s31)))))))",
                "(s3 s30 (s2 (s31 s32) (s1 (s14 s31 15000) (s41 (s1 s32 4 2) (s1 s32 2 4) (s30 (s10 s31 1) (s25 s32))) 0)))",
                "(s30 0 #t)");
        comesTo("loops with many parameters", "30000",
                "(s3 s30 (s2 (s31 s32 s33 s34 s35) (s1 (s14 s31 30000) (s30 (s10 s31 1) s33 s34 s35 s32) s31)))",
                "(s30 0 1 2 3 4)");
        comesTo("what was handed on", "(3 4 1 2)",
                "(s3 s41 (s2 s31 s31))",
                "(s3 s30 (s2 (s31 s32 s33 s34 s35) (s1 (s14 s31 30002) (s30 (s10 s31 1) s33 s34 s35 s32) (s41 s32 s33 s34 s35))))",
                "(s30 0 1 2 3 4)");
    }
}
