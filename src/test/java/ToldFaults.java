/**
 * The runs of calls in which issues told a fault, with the answers that are due; those of later issues are files under
 * src/test/runs. Run from the project's root.
 */
public final class ToldFaults {
    private static int wrong;
    // A call that takes longer than this is taken for one that does not end; much longer than it takes alone, as many tests run.
    private static final double MOST_SECONDS = 60;

    private static synchronized void due(String what, Object got, Object want) {
        if (!String.valueOf(got).equals(String.valueOf(want))) {
            wrong++;
            System.out.println(what + " answered " + got + ", due is " + want);
        }
    }

    public static void main(String[] args) throws Exception {
        java.util.List<java.nio.file.Path> files = new java.util.ArrayList<>();
        try (java.util.stream.Stream<java.nio.file.Path> all = java.nio.file.Files.list(java.nio.file.Path.of("src/test/runs"))) {
            all.sorted().forEach(files::add);
        }
        java.util.List<Thread> threads = new java.util.ArrayList<>();
        for (int i = 0; i < 4; i++) {
            int first = i;
            threads.add(new Thread(null, () -> playFiles(files, first), "files", 1 << 24));
            threads.get(i).start();
        }
        for (Thread thread : threads) thread.join();
        changed();
        manyValuesThatWait();
        longListAppliedAmongManyValues();
        thousandsOfValuesThatWait();
        play(new WindwardScheme(), CONTINUATIONS_OF_MANY_PLACES);
        play(new WindwardScheme(), VARIABLES_IN_CHANGING_ORDER);
        System.out.println(wrong == 0 ? "no told fault is left" : wrong + " answers are not as due");
        if (wrong != 0) System.exit(1);
    }

    private static void playFiles(java.util.List<java.nio.file.Path> files, int first) {
        for (int i = first; i < files.size(); i += 4) {
            try {
                int before = wrong;
                play(new WindwardScheme(), java.nio.file.Files.readString(files.get(i)).replace("\n", ""));
                if (wrong > before) System.out.println("(in " + files.get(i) + ", or another one at the same time)");
            } catch (java.io.IOException e) {
                due(files.get(i).toString(), "not read", "read");
            }
        }
    }

    /** Runs that are told in the issues, with other numbers. */
    private static void changed() throws Exception {
        for (String levels : new String[] {"3", "12", "20"}) {
            WindwardScheme x = began("issue19", "n 8 1 167;", "n " + levels + " 1 167;", ";r 500 r;r 500 v;K n;A 7");
            ends("issue 19 with " + levels, x, "7");
        }
        for (String levels : new String[] {"4", "12", "23"}) {
            WindwardScheme x = began("issue22", "n 8 1 256;", "n " + levels + " 1 256;", ";r 500 v;K n;A 7");
            ends("issue 22 with " + levels, x, "7");
        }
        WindwardScheme x = began("issue20", "", "", ";x 49 1");
        due("begin behind much", x.begin(49), 'r');
        ends("a rule behind much", x, "1");
        x = began("issue27", "", "", ";g 57 29");
        x.begin(x.symbol(57));
        ends("a list that is the value", x, "(1 1 1 1 1 1 1 1 1 1 1 1 1 1)");
        x.begin(list(x, x.symbol(17), list(x, x.symbol(18), x.symbol(57))));
        ends("first and rest of it", x, "1");
    }

    private static int list(WindwardScheme x, int one, int other) {
        return x.pair(one, x.pair(other, x.empty()));
    }

    /** An object behind the calls of a file, but for the last ones, with something in place of something else. */
    private static WindwardScheme began(String file, String old, String changed, String last) throws java.io.IOException {
        String calls = java.nio.file.Files.readString(java.nio.file.Path.of("src/test/runs/" + file + ".txt")).replace("\n", "");
        due(file + " has its end", calls.endsWith(last), true);
        WindwardScheme x = new WindwardScheme();
        play(x, calls.substring(0, calls.length() - last.length()).replace(old.isEmpty() ? "?" : old, changed));
        return x;
    }

    /** The run ends with this value. */
    private static void ends(String what, WindwardScheme x, String value) {
        char state = x.state();
        for (int i = 0; i < 100 && state == 'r'; i++) state = x.run(500);
        due(what, state, 'v');
        due(what + " value", state == 'v' ? RoomTests.valueOf(x) : state, value);
    }

    /** Plays calls, by the letters in answer(), each with its arguments, what it must answer or throw, and how often. */
    private static void play(WindwardScheme x, String calls) {
        for (String call : calls.split(";")) {
            String[] words = call.split(" ");
            int times = words[words.length - 1].startsWith("*") ? Integer.parseInt(words[words.length - 1].substring(1)) : 1;
            String want = words[words.length - (times == 1 ? 1 : 2)];
            for (int i = 0; i < times; i++) {
                Object got;
                long begun = System.nanoTime();
                try {
                    got = answer(x, words);
                } catch (RuntimeException e) {
                    got = "throws." + e.getClass().getSimpleName();
                }
                due(call + " (" + i + ")", got, want);
                double seconds = (System.nanoTime() - begun) / 1e9;
                if (seconds > MOST_SECONDS) due(call + " (" + i + ")", seconds + " s", "in time");
            }
        }
    }

    private static Object answer(WindwardScheme x, String[] words) {
        int one = words.length > 1 && words[1].matches("-?\\d+") ? Integer.parseInt(words[1]) : 0;
        switch (words[0]) {
            case "e": return x.empty();
            case "s": return x.symbol(one);
            case "n": return x.number(one, Integer.parseInt(words[2]));
            case "p": return x.pair(one, Integer.parseInt(words[2]));
            case "t": return x.truth(Boolean.parseBoolean(words[1]));
            case "b": return x.begin(one);
            case "x": return x.writeExpanded(one);
            case "g": return x.writeGlobal(one);
            case "K": return x.valueKind();
            case "A": return x.valueAmount();
            case "W": return x.writeValue();
            case "S": return x.state();
            case "E": return x.state() == 'e' ? x.error() : "THREW";
            case "k": return x.kind(one);
            case "a": return x.amount(one);
            case "o": return x.isSound();
            case "T": return x.type((char) one);
            case "R": return x.read();
            case "C": return x.charAt(one);
            default: return x.run(one);
        }
    }

    private static int type(WindwardScheme x, String text) {
        for (int i = 0; i < text.length(); i++) due("type", x.type(text.charAt(i)), i + 1);
        return text.length();
    }

    /** Issue 6: 20 values wait ahead of each application. */
    private static void manyValuesThatWait() {
        WindwardScheme x = new WindwardScheme();
        due("length", type(x, "(s3 s30 (s2 () (s10 1 1 1 1 1 1 1 1 1 1 1 1 1 1 1 1 1 1 1 1 (s30))))"), 68);
        due("read", x.read(), 58);
        due("begin", x.begin(58), 'r');
        due("run", x.run(1), 'v');
        due("clear", x.clear(), 68);
        type(x, "(s30)");
        due("read", x.read(), 61);
        due("begin", x.begin(61), 'r');
        for (int i = 0; i < 430; i++) due("run " + i, x.run(500), 'r');
        due("applications", x.applications(), 215000);
    }

    /** Issue 7: a procedure is applied to a list of more than 100,000 parts while many values wait. */
    private static void longListAppliedAmongManyValues() {
        WindwardScheme x = new WindwardScheme();
        play(x, CALLS);
        due("length", x.writeValue(), 1);
        due("value", x.charAt(0), '1');
        due("applications", x.applications(), 250 * 500 + 18);
    }

    /** Issue 10: 2100 values wait ahead of each application. */
    private static void thousandsOfValuesThatWait() {
        WindwardScheme x = new WindwardScheme();
        StringBuilder numbers = new StringBuilder();
        for (int i = 1; i <= 50; i++) numbers.append(i).append(' ');
        due("length", type(x, "(s6 s40 () ((s8 s9) (s30 " + numbers + "s9)))"), 171);
        due("read", x.read(), 120);
        due("begin", x.begin(120), 'r');
        due("run", x.run(1), 'v');
        due("clear", x.clear(), 171);
        due("length", type(x, "(s3 s30 (s2 s9 " + "(s40 ".repeat(42) + "(s30)" + ")".repeat(44)), 274);
        due("read", x.read(), 303);
        due("begin", x.begin(303), 'r');
        due("run", x.run(1), 'v');
        due("clear", x.clear(), 274);
        type(x, "(s30)");
        due("read", x.read(), 306);
        due("begin", x.begin(306), 'r');
        int callsBefore = 171 + 4 + 274 + 4 + 5 + 2;
        for (int i = callsBefore; i < 512; i++) due("run at call " + i, x.run(500), 'r');
    }

    private static final String CALLS = "e 0;s 9 1;p 1 0 2;n 1 1 3;p 3 2 4;s 16 5;p 5 4 6;p 6 0 7;p 3 7 8;p 5 8 9;p 9 0 10;p 3 10 11;"
            + "p 5 11 12;p 12 0 13;p 3 13 14;p 5 14 15;p 15 0 16;p 3 16 17;p 5 17 18;p 18 0 19;p 3 19 20;p 5 20 21;"
            + "p 21 0 22;p 3 22 23;p 5 23 24;p 24 0 25;p 3 25 26;p 5 26 27;p 27 0 28;p 3 28 29;p 5 29 30;p 30 0 31;"
            + "p 3 31 32;p 5 32 33;p 33 0 34;s 8 35;p 35 2 36;p 36 34 37;p 37 0 38;p 0 38 39;s 51 40;p 40 39 41;"
            + "s 6 42;p 42 41 43;b 43 r;r 1 v;p 3 4 44;p 3 44 45;p 3 45 46;p 3 46 47;p 3 47 48;p 3 48 49;p 3 49 50;"
            + "p 3 50 51;p 3 51 52;p 3 52 53;p 3 53 54;p 3 54 55;p 3 55 56;p 3 56 57;p 3 57 58;p 3 58 59;p 3 59 60;"
            + "p 3 60 61;p 3 61 62;p 3 62 63;p 3 63 64;p 3 64 65;p 3 65 66;p 3 66 67;p 3 67 68;p 3 68 69;p 3 69 70;"
            + "p 3 70 71;p 3 71 72;s 10 73;p 73 72 74;p 74 0 75;p 36 75 76;p 76 0 77;p 0 77 78;s 50 79;p 79 78 80;"
            + "p 42 80 81;b 81 r;r 1 v;p 0 0 82;s 0 83;p 83 82 84;p 84 0 85;s 40 86;p 86 85 87;s 3 88;p 88 87 89;"
            + "b 89 r;r 1 v;s 31 90;p 90 0 91;p 91 0 92;p 86 0 93;p 40 93 94;p 94 0 95;p 40 95 96;p 96 0 97;"
            + "p 40 97 98;p 98 0 99;p 40 99 100;p 100 0 101;p 40 101 102;p 102 0 103;p 40 103 104;p 104 0 105;"
            + "p 40 105 106;p 106 0 107;p 40 107 108;p 108 0 109;p 40 109 110;p 110 0 111;p 86 111 112;s 4 113;"
            + "p 113 112 114;p 114 92 115;s 5 116;p 116 115 117;p 117 0 118;p 0 118 119;s 2 120;p 120 119 121;"
            + "p 121 0 122;p 90 122 123;p 88 123 124;b 124 r;r 1 v;b 91 r;r 500 r *240;p 3 0 125;s 42 126;"
            + "p 126 125 127;p 88 127 128;b 128 r;r 1 v;s 32 129;p 129 0 130;p 130 0 131;p 126 2 132;p 113 132 133;"
            + "p 133 131 134;p 116 134 135;p 135 0 136;p 2 136 137;p 120 137 138;p 138 0 139;s 22 140;"
            + "p 140 139 141;p 141 0 142;p 79 142 143;p 143 0 144;p 79 144 145;p 145 0 146;p 79 146 147;"
            + "p 147 0 148;p 79 148 149;p 149 0 150;p 79 150 151;p 151 0 152;p 79 152 153;p 153 0 154;p 79 154 155;"
            + "p 155 0 156;p 79 156 157;p 157 0 158;p 79 158 159;p 159 0 160;p 79 160 161;p 161 0 162;p 79 162 163;"
            + "p 163 0 164;p 79 164 165;p 165 0 166;p 79 166 167;p 167 0 168;p 79 168 169;p 169 0 170;p 79 170 171;"
            + "p 171 0 172;p 79 172 173;p 173 0 174;p 79 174 175;p 175 0 176;p 79 176 177;p 177 0 178;p 79 178 179;"
            + "p 179 0 180;p 79 180 181;p 181 0 182;p 79 182 183;p 183 0 184;p 79 184 185;p 185 0 186;p 79 186 187;"
            + "p 187 0 188;p 79 188 189;p 189 0 190;p 0 190 191;p 120 191 192;p 192 0 193;p 129 193 194;"
            + "p 88 194 195;b 195 r;r 1 v;b 130 r;r 500 r *10;p 1 2 196;p 120 196 197;p 197 93 198;s 24 199;"
            + "p 199 198 200;p 200 0 201;s 17 202;p 202 201 203;p 203 0 204;p 203 204 205;p 203 205 206;"
            + "p 203 206 207;p 203 207 208;p 203 208 209;p 116 209 210;b 210 r;r 500 v;";

    /** Issue 11: continuations of many places of a program are kept, at each of which some more values wait. */
    private static final String CONTINUATIONS_OF_MANY_PLACES = "e 0;s 9 1;p 1 0 2;p 1 2 3;s 2 4;p 4 3 5;p 5 0 6;s 53 7;p 7 6 8;s 3 9;p 9 8 10;b 10 r;r 500 v;p 0 0 11;"
            + "s 0 12;p 12 11 13;p 13 0 14;s 59 15;p 15 14 16;p 9 16 17;b 17 r;r 500 v;p 15 0 18;p 1 18 19;s 16 20;"
            + "p 20 19 21;p 21 0 22;p 15 22 23;s 4 24;p 24 23 25;p 25 0 26;p 2 26 27;p 4 27 28;p 28 0 29;s 49 30;"
            + "p 30 29 31;p 9 31 32;b 32 r;r 500 v;p 30 0 33;s 22 34;p 34 33 35;p 35 2 36;n 25 1 37;p 37 36 38;"
            + "p 35 38 39;n 24 1 40;p 40 39 41;p 35 41 42;n 23 1 43;p 43 42 44;p 35 44 45;n 22 1 46;p 46 45 47;"
            + "p 35 47 48;n 21 1 49;p 49 48 50;p 35 50 51;n 20 1 52;p 52 51 53;p 35 53 54;n 19 1 55;p 55 54 56;"
            + "p 35 56 57;n 18 1 58;p 58 57 59;p 35 59 60;n 17 1 61;p 61 60 62;p 35 62 63;n 16 1 64;p 64 63 65;"
            + "p 35 65 66;n 15 1 67;p 67 66 68;p 35 68 69;n 14 1 70;p 70 69 71;p 35 71 72;n 13 1 73;p 73 72 74;"
            + "p 35 74 75;n 12 1 76;p 76 75 77;p 35 77 78;n 11 1 79;p 79 78 80;p 35 80 81;n 10 1 82;p 82 81 83;"
            + "p 35 83 84;n 9 1 85;p 85 84 86;p 35 86 87;n 8 1 88;p 88 87 89;p 35 89 90;n 7 1 91;p 91 90 92;p 35 92 93;"
            + "n 6 1 94;p 94 93 95;p 35 95 96;n 5 1 97;p 97 96 98;p 35 98 99;n 4 1 100;p 100 99 101;p 35 101 102;"
            + "n 3 1 103;p 103 102 104;p 35 104 105;n 2 1 106;p 106 105 107;p 35 107 108;n 1 1 109;p 109 108 110;"
            + "p 7 110 111;p 111 0 112;s 8 113;p 113 2 114;p 114 112 115;p 115 0 116;p 0 116 117;s 40 118;"
            + "p 118 117 119;s 6 120;p 120 119 121;b 121 r;r 500 v;p 109 0 122;n 0 1 123;p 123 0 124;p 118 124 125;"
            + "p 125 0 126;p 118 126 127;p 127 0 128;p 118 128 129;p 129 0 130;p 118 130 131;p 131 0 132;p 118 132 133;"
            + "p 133 0 134;p 118 134 135;p 135 0 136;p 118 136 137;p 137 0 138;p 118 138 139;p 139 0 140;p 118 140 141;"
            + "p 141 0 142;p 118 142 143;p 143 0 144;p 118 144 145;p 145 0 146;p 118 146 147;p 147 0 148;p 118 148 149;"
            + "p 149 0 150;p 118 150 151;p 151 0 152;p 118 152 153;p 153 0 154;p 118 154 155;p 155 0 156;p 118 156 157;"
            + "p 157 0 158;p 118 158 159;p 159 0 160;p 118 160 161;p 161 0 162;p 118 162 163;p 163 0 164;p 118 164 165;"
            + "p 165 0 166;p 118 166 167;p 167 0 168;p 118 168 169;p 169 0 170;p 118 170 171;p 171 0 172;p 118 172 173;"
            + "p 173 0 174;p 118 174 175;p 175 0 176;p 118 176 177;p 177 0 178;p 118 178 179;p 179 0 180;p 118 180 181;"
            + "p 181 0 182;p 118 182 183;p 183 0 184;p 118 184 185;p 185 0 186;p 118 186 187;p 187 0 188;p 118 188 189;"
            + "p 189 0 190;p 118 190 191;p 191 0 192;p 118 192 193;p 193 0 194;p 118 194 195;p 195 0 196;p 118 196 197;"
            + "p 197 0 198;p 118 198 199;p 199 0 200;p 118 200 201;p 201 0 202;p 118 202 203;p 203 122 204;s 5 205;"
            + "p 205 204 206;b 206 r;r 500 r *6;r 500 v;p 106 0 207;p 203 207 208;p 205 208 209;b 209 r;r 500 r *6;"
            + "r 500 v;p 103 0 210;p 203 210 211;p 205 211 212;b 212 r;r 500 r *6;r 500 v;p 100 0 213;p 203 213 214;"
            + "p 205 214 215;b 215 r;r 500 r *6;r 500 v";

    /** Issue 12: a procedure hands its 30 variables on in an order that changes from call to call, and waits. */
    private static final String VARIABLES_IN_CHANGING_ORDER = "e 0;s 31 1;p 1 0 2;s 10 3;p 3 2 4;s 51 5;p 5 4 6;s 48 7;p 7 6 8;s 59 9;p 9 8 10;s 43 11;p 11 10 12;"
            + "s 52 13;p 13 12 14;s 37 15;p 15 14 16;s 44 17;p 17 16 18;s 56 19;p 19 18 20;s 47 21;p 21 20 22;s 38 23;"
            + "p 23 22 24;s 45 25;p 25 24 26;s 46 27;p 27 26 28;s 49 29;p 29 28 30;s 36 31;p 31 30 32;s 34 33;"
            + "p 33 32 34;s 41 35;p 35 34 36;s 54 37;p 37 36 38;s 50 39;p 39 38 40;s 35 41;p 41 40 42;s 58 43;"
            + "p 43 42 44;s 53 45;p 45 44 46;s 55 47;p 47 46 48;s 40 49;p 49 48 50;s 39 51;p 51 50 52;s 32 53;"
            + "p 53 52 54;s 33 55;p 55 54 56;s 42 57;p 57 56 58;s 57 59;p 59 58 60;s 30 61;p 61 60 62;p 62 2 63;s 5 64;"
            + "p 64 63 65;p 65 0 66;p 41 0 67;p 29 67 68;p 43 68 69;p 19 69 70;p 47 70 71;p 55 71 72;p 51 72 73;"
            + "p 33 73 74;p 27 74 75;p 25 75 76;p 13 76 77;p 11 77 78;p 15 78 79;p 45 79 80;p 39 80 81;p 1 81 82;"
            + "p 17 82 83;p 7 83 84;p 9 84 85;p 49 85 86;p 5 86 87;p 23 87 88;p 3 88 89;p 31 89 90;p 53 90 91;"
            + "p 37 91 92;p 35 92 93;p 57 93 94;p 21 94 95;p 59 95 96;p 61 96 97;p 97 2 98;p 64 98 99;p 99 66 100;"
            + "p 33 100 101;s 1 102;p 102 101 103;p 103 0 104;p 99 0 105;p 65 105 106;p 33 106 107;p 102 107 108;"
            + "p 108 104 109;p 15 109 110;p 102 110 111;p 111 0 112;p 108 0 113;p 103 113 114;p 15 114 115;"
            + "p 102 115 116;p 116 112 117;p 49 117 118;p 102 118 119;p 119 0 120;p 3 0 121;p 9 121 122;p 43 122 123;"
            + "p 59 123 124;p 19 124 125;p 47 125 126;p 37 126 127;p 45 127 128;p 13 128 129;p 5 129 130;p 39 130 131;"
            + "p 29 131 132;p 7 132 133;p 21 133 134;p 27 134 135;p 25 135 136;p 17 136 137;p 11 137 138;p 57 138 139;"
            + "p 35 139 140;p 49 140 141;p 51 141 142;p 23 142 143;p 15 143 144;p 31 144 145;p 41 145 146;p 33 146 147;"
            + "p 55 147 148;p 53 148 149;p 1 149 150;p 150 120 151;s 2 152;p 152 151 153;p 153 0 154;p 61 154 155;"
            + "s 3 156;p 156 155 157;b 157 r;r 1 v;n 4 1 158;p 158 0 159;t false 160;p 160 159 161;n 11 1 162;"
            + "p 162 161 163;p 160 163 164;p 160 164 165;n 17 1 166;p 166 165 167;n 14 1 168;p 168 167 169;"
            + "p 160 169 170;p 160 170 171;n 7 1 172;p 172 171 173;n 10 1 174;p 174 173 175;n 20 1 176;p 176 175 177;"
            + "n 16 1 178;p 178 177 179;p 160 179 180;n 13 1 181;p 181 180 182;n 19 1 183;p 183 182 184;p 160 184 185;"
            + "n 1 1 186;p 186 185 187;n 8 1 188;p 188 187 189;p 160 189 190;n 21 1 191;p 191 190 192;n 15 1 193;"
            + "p 193 192 194;n 3 1 195;p 195 194 196;n 12 1 197;p 197 196 198;n 5 1 199;p 199 198 200;n 9 1 201;"
            + "p 201 200 202;n 18 1 203;p 203 202 204;n 2 1 205;p 205 204 206;p 160 206 207;n 6 1 208;p 208 207 209;"
            + "p 61 209 210;b 210 r;r 500 r *297";
}
