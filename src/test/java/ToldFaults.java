/** The runs of calls in which issues told a fault, with the answers that are due. */
public final class ToldFaults {
    private static int wrong;

    private static void due(String what, Object got, Object want) {
        if (!String.valueOf(got).equals(String.valueOf(want))) {
            wrong++;
            System.out.println(what + " answered " + got + ", due is " + want);
        }
    }

    public static void main(String[] args) {
        manyValuesThatWait();
        longListAppliedAmongManyValues();
        System.out.println(wrong == 0 ? "no told fault is left" : wrong + " answers are not as due");
        if (wrong != 0) System.exit(1);
    }

    /** Plays calls: e empty, s symbol, p pair, n number, b begin, r run, each with its arguments, what it must answer, and how often. */
    private static void play(WindwardScheme x, String calls) {
        for (String call : calls.split(";")) {
            String[] words = call.split(" ");
            int times = words[words.length - 1].startsWith("*") ? Integer.parseInt(words[words.length - 1].substring(1)) : 1;
            String want = words[words.length - (times == 1 ? 1 : 2)];
            for (int i = 0; i < times; i++) {
                Object got;
                switch (words[0]) {
                    case "e": got = x.empty(); break;
                    case "s": got = x.symbol(Integer.parseInt(words[1])); break;
                    case "n": got = x.number(Integer.parseInt(words[1]), Integer.parseInt(words[2])); break;
                    case "p": got = x.pair(Integer.parseInt(words[1]), Integer.parseInt(words[2])); break;
                    case "b": got = x.begin(Integer.parseInt(words[1])); break;
                    default: got = x.run(Integer.parseInt(words[1]));
                }
                due(call + " (" + i + ")", got, want);
            }
        }
    }

    private static int type(WindwardScheme x, String text) {
        for (int i = 0; i < text.length(); i++) due("type", x.type(text.charAt(i)), i + 1);
        return text.length();
    }

    /** Issue 6: 20 values wait ahead of each application. */
    private static void manyValuesThatWait() {
        WindwardScheme x = new WindwardScheme();
        due("length", type(x, "(s3 s30 (s2 () (s10 1 1 1 1 1 1 1 1 1 1 1 1 1 1 1 1 1 1 1 1 (s30))))"), 68);
        due("read", x.read(), 58);
        due("begin", x.begin(58), 'r');
        due("run", x.run(1), 'v');
        due("clear", x.clear(), 68);
        type(x, "(s30)");
        due("read", x.read(), 61);
        due("begin", x.begin(61), 'r');
        for (int i = 0; i < 430; i++) due("run " + i, x.run(500), 'r');
        due("applications", x.applications(), 215000);
    }

    /** Issue 7: a procedure is applied to a list of more than 100,000 parts while many values wait. */
    private static void longListAppliedAmongManyValues() {
        WindwardScheme x = new WindwardScheme();
        play(x, CALLS);
        due("length", x.writeValue(), 1);
        due("value", x.charAt(0), '1');
        due("applications", x.applications(), 250 * 500 + 18);
    }

    private static final String CALLS = "e 0;s 9 1;p 1 0 2;n 1 1 3;p 3 2 4;s 16 5;p 5 4 6;p 6 0 7;p 3 7 8;p 5 8 9;p 9 0 10;p 3 10 11;"
            + "p 5 11 12;p 12 0 13;p 3 13 14;p 5 14 15;p 15 0 16;p 3 16 17;p 5 17 18;p 18 0 19;p 3 19 20;p 5 20 21;"
            + "p 21 0 22;p 3 22 23;p 5 23 24;p 24 0 25;p 3 25 26;p 5 26 27;p 27 0 28;p 3 28 29;p 5 29 30;p 30 0 31;"
            + "p 3 31 32;p 5 32 33;p 33 0 34;s 8 35;p 35 2 36;p 36 34 37;p 37 0 38;p 0 38 39;s 51 40;p 40 39 41;"
            + "s 6 42;p 42 41 43;b 43 r;r 1 v;p 3 4 44;p 3 44 45;p 3 45 46;p 3 46 47;p 3 47 48;p 3 48 49;p 3 49 50;"
            + "p 3 50 51;p 3 51 52;p 3 52 53;p 3 53 54;p 3 54 55;p 3 55 56;p 3 56 57;p 3 57 58;p 3 58 59;p 3 59 60;"
            + "p 3 60 61;p 3 61 62;p 3 62 63;p 3 63 64;p 3 64 65;p 3 65 66;p 3 66 67;p 3 67 68;p 3 68 69;p 3 69 70;"
            + "p 3 70 71;p 3 71 72;s 10 73;p 73 72 74;p 74 0 75;p 36 75 76;p 76 0 77;p 0 77 78;s 50 79;p 79 78 80;"
            + "p 42 80 81;b 81 r;r 1 v;p 0 0 82;s 0 83;p 83 82 84;p 84 0 85;s 40 86;p 86 85 87;s 3 88;p 88 87 89;"
            + "b 89 r;r 1 v;s 31 90;p 90 0 91;p 91 0 92;p 86 0 93;p 40 93 94;p 94 0 95;p 40 95 96;p 96 0 97;"
            + "p 40 97 98;p 98 0 99;p 40 99 100;p 100 0 101;p 40 101 102;p 102 0 103;p 40 103 104;p 104 0 105;"
            + "p 40 105 106;p 106 0 107;p 40 107 108;p 108 0 109;p 40 109 110;p 110 0 111;p 86 111 112;s 4 113;"
            + "p 113 112 114;p 114 92 115;s 5 116;p 116 115 117;p 117 0 118;p 0 118 119;s 2 120;p 120 119 121;"
            + "p 121 0 122;p 90 122 123;p 88 123 124;b 124 r;r 1 v;b 91 r;r 500 r *240;p 3 0 125;s 42 126;"
            + "p 126 125 127;p 88 127 128;b 128 r;r 1 v;s 32 129;p 129 0 130;p 130 0 131;p 126 2 132;p 113 132 133;"
            + "p 133 131 134;p 116 134 135;p 135 0 136;p 2 136 137;p 120 137 138;p 138 0 139;s 22 140;"
            + "p 140 139 141;p 141 0 142;p 79 142 143;p 143 0 144;p 79 144 145;p 145 0 146;p 79 146 147;"
            + "p 147 0 148;p 79 148 149;p 149 0 150;p 79 150 151;p 151 0 152;p 79 152 153;p 153 0 154;p 79 154 155;"
            + "p 155 0 156;p 79 156 157;p 157 0 158;p 79 158 159;p 159 0 160;p 79 160 161;p 161 0 162;p 79 162 163;"
            + "p 163 0 164;p 79 164 165;p 165 0 166;p 79 166 167;p 167 0 168;p 79 168 169;p 169 0 170;p 79 170 171;"
            + "p 171 0 172;p 79 172 173;p 173 0 174;p 79 174 175;p 175 0 176;p 79 176 177;p 177 0 178;p 79 178 179;"
            + "p 179 0 180;p 79 180 181;p 181 0 182;p 79 182 183;p 183 0 184;p 79 184 185;p 185 0 186;p 79 186 187;"
            + "p 187 0 188;p 79 188 189;p 189 0 190;p 0 190 191;p 120 191 192;p 192 0 193;p 129 193 194;"
            + "p 88 194 195;b 195 r;r 1 v;b 130 r;r 500 r *10;p 1 2 196;p 120 196 197;p 197 93 198;s 24 199;"
            + "p 199 198 200;p 200 0 201;s 17 202;p 202 201 203;p 203 0 204;p 203 204 205;p 203 205 206;"
            + "p 203 206 207;p 203 207 208;p 203 208 209;p 116 209 210;b 210 r;r 500 v;";
}
