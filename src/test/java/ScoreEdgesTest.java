/** The boundary cases of promises 12 to 20 and of the second term, sentence by sentence. */
public final class ScoreEdgesTest {
    private static final int LEAST = Integer.MIN_VALUE;
    private static final int GREATEST = Integer.MAX_VALUE;

    public static void main(String[] args) {
        promise12();
        promise12Bytes();
        promise13();
        promise14EverySign();
        promise14EveryPlace();
        promise14TooLong();
        promise14Beats();
        promise14Depth();
        promise14Letters();
        promise14Again();
        promise15Range();
        promise15UpTo1000();
        promise16();
        promise16Lift();
        promise16Touched();
        promise16Stays();
        promise17();
        promise17EveryPair();
        promise18();
        promise19Range();
        promise19LastBeat();
        promise19NothingChanges();
        promise20();
        termItems();
        termRate();
        termWear();
        termLift();
        termEndOfScore();
        Due.finish("ScoreEdgesTest");
    }

    private static PuppetBridge leg(int strings) {
        PuppetBridge x = new PuppetBridge();
        x.figure(10, 8, 8);
        for (int s = 0; s < strings; s++) {
            x.string(0, 0, s % 2 == 0 ? 1 : -1, 999);
        }
        return x;
    }

    /** Two arms that point up from HIPS at x 0 and at x apart, at the height 5000. */
    private static PuppetBridge two(int apart) {
        PuppetBridge x = new PuppetBridge();
        for (int f = 0; f < 2; f++) {
            x.figure(10, 0, 8);
            x.string(f, 0, 1, 999);
            x.place(f, f * apart, 5000);
        }
        return x;
    }

    private static int word(String four) {
        return four.charAt(0) << 24 | four.charAt(1) << 16 | four.charAt(2) << 8 | four.charAt(3);
    }

    private static void promise12() {
        PuppetBridge x = leg(1);
        for (int k = 1; k <= 25; k++) {
            Due.is("sign " + k, x.sign(word(k == 1 ? "a7;." : "....")), 4 * k);
        }
        Due.is("104 would be more than 100", x.sign(0), -1);
        for (int n = 99; n >= 97; n--) {
            x.end(n);
            Due.is("from " + n + " there would be more", x.sign(0), -1);
            Due.is("refused: signs", x.count(7), n);
        }
        x.end(96);
        Due.is("from 96 there are 100", x.sign(0), 100);
        x.end(4);
        Due.is("the signs are as they came", x.score(0), 2);
        x.play(1);
        Due.is("the first of them", x.pulled(0, 0, 0), 7);
    }

    private static void promise12Bytes() {
        int[] wrongAt = {24, 16, 8, 0};
        for (int k = 0; k < 4; k++) {
            for (int b : new int[] {0, 1, 127, 128, 174, 255}) {
                PuppetBridge x = leg(1);
                int v = word("a7;.") & ~(255 << wrongAt[k]) | b << wrongAt[k];
                Due.is("sign of any v", x.sign(v), 4);
                Due.is("byte " + b + " at " + k, x.score(0), -1 - k);
            }
        }
        PuppetBridge x = leg(1);
        Due.is("sign(-1)", x.sign(-1), 4);
        Due.is("sign(least)", x.sign(LEAST), 8);
        Due.is("sign(greatest)", x.sign(GREATEST), 12);
        Due.is("score", x.score(0), -1);
    }

    private static void promise13() {
        PuppetBridge x = leg(1);
        Due.yes("end(0) of none", x.end(0));
        Due.no("end(1) of none", x.end(1));
        x.sign(word("a7;a"));
        x.sign(word("????"));
        for (int n : new int[] {9, 100, -1, LEAST, GREATEST}) {
            Due.no("end(" + n + ") of eight", x.end(n));
            Due.is("refused: signs", x.count(7), 8);
        }
        Due.yes("end(8) of eight", x.end(8));
        Due.is("all of them", x.count(7), 8);
        Due.yes("end(4)", x.end(4));
        Due.no("end(5) of four: they are gone", x.end(5));
        x.sign(word("2;a3"));
        Due.is("others come behind the first four", x.score(0), 3);
        Due.no("end(1) behind score()", x.end(1));
        Due.yes("end(0) behind score()", x.end(0));
    }

    /** Behind each beginning just these signs can stand. */
    private static void promise14EverySign() {
        String digits = "0123456789";
        String[][] rows = {
            {"", "(.+-ab"}, {"a1;", "(.+-ab"}, {"(", "(.+-ab"}, {"((", "(.+-ab"}, {"(((", ".+-ab"}, {"(.;", "(.+-ab"},
            {"(((.;", ".+-ab"}, {"a1,", "+-ab"}, {"(+1,b2,", "+-ab"}, {"a", digits}, {"+", digits}, {"-", digits},
            {"a1,-", digits}, {"a1", ",;"}, {"(a1", ",;)"}, {"-0", ",;"}, {".", ";"}, {"(.", ";)"}, {"(.)", "*"},
            {"((.)", "*"}, {"(.)*", "23456789"}, {"((.)*", "23456789"}, {"(.)*2", ";"}, {"((.)*2", ";)"},
            {"(((.)*2)*2)", "*"}, {"(((.)*2;", "(.+-ab"}, {"(((.)*2;(", ".+-ab"}, {"((.)*2;", "(.+-ab"}};
        for (String[] r : rows) {
            for (int sign = 0; sign < 256; sign++) {
                String text = r[0] + (char) sign;
                int got = Due.score(leg(2), 0, text);
                boolean stands = r[1].indexOf(sign) >= 0;
                String call = "score of \"" + r[0] + "\" and sign " + sign;
                Due.is(call + " stands there", got != -1 - r[0].length() ? 1 : 0, stands ? 1 : 0);
                Due.yes(call + " is a whole one or ends too early or is none", stands || got < 0);
            }
        }
    }

    /** A wrong sign, and an end that comes too early, at each place of a text. */
    private static void promise14EveryPlace() {
        String sixty = "(a1,+2;.)*2;" + "((-3;b4)*2;b5)*2;" + "(((.)*2)*2;.)*2;a1" + ";.;.;a9,b9,+9";
        Due.is("signs of the text", sixty.length(), 60);
        Due.yes("it is a SCORE", Due.score(leg(2), 0, sixty) > 0);
        for (int p = 0; p < 60; p++) {
            String wrong = sixty.substring(0, p) + '~' + sixty.substring(p + 1);
            Due.is("a wrong sign at " + p, Due.score(leg(2), 0, wrong), -1 - p);
            Due.is("a wrong sign at " + p + " of 100", Due.score(leg(2), 0, wrong + "~".repeat(40)), -1 - p);
            String cut = sixty.substring(0, p);
            boolean whole = p > 0 && ends(cut);
            int got = Due.score(leg(2), 0, cut);
            Due.is("its end at " + p, whole ? Math.min(got, 0) : got, whole ? 0 : -1 - p);
        }
        Due.is("60 signs and one more", Due.score(leg(2), 0, sixty + ";"), -61);
    }

    private static boolean ends(String text) {
        int depth = 0;
        for (int i = 0; i < text.length(); i++) {
            depth += text.charAt(i) == '(' ? 1 : text.charAt(i) == ')' ? -1 : 0;
        }
        char last = text.charAt(text.length() - 1);
        return depth == 0 && (last == '.' || last >= '0' && last <= '9');
    }

    private static void promise14TooLong() {
        String sixty = ".;".repeat(28) + "a1;.";
        Due.is("60 signs", Due.score(leg(1), 0, sixty), 30);
        Due.is("61: the first 60 could end", Due.score(leg(1), 0, sixty + ";"), -61);
        Due.is("62: the first 60 could end", Due.score(leg(1), 0, sixty + ";."), -61);
        String goesOn = ".;".repeat(29) + "a1";
        Due.is("60 signs", Due.score(leg(1), 0, goesOn), 30);
        Due.is("61: the first 60 could go on or end", Due.score(leg(1), 0, goesOn + ","), -61);
        Due.is("60 signs that end too early", Due.score(leg(1), 0, ".;".repeat(30)), -61);
        Due.is("61: the first 60 could go on", Due.score(leg(1), 0, ".;".repeat(30) + "."), -61);
        Due.is("61: the first 60 could go on within ( )", Due.score(leg(1), 0, "(.;" + ".;".repeat(28) + ".)*2"), -61);
        Due.is("60 within ( )", Due.score(leg(1), 0, "(" + ".;".repeat(27) + ".)*2" ), 56);
        Due.is("61: also where there would be more than 80 BEATS", Due.score(leg(1), 0, "((.)*9)*9;" + ".;".repeat(25) + "."), -61);
        Due.is("the 60th is wrong, there are more", Due.score(leg(1), 0, sixty.substring(0, 59) + "?????"), -60);
        Due.is("100 signs", Due.score(leg(1), 0, sixty + ";.".repeat(20)), -61);
    }

    private static void promise14Beats() {
        Object[][] rows = {{"((.)*8;.;.)*8", 80}, {"((.)*9;.)*8", 80}, {"((.)*8;.;.)*8;.", -100}, {".;((.)*9;.)*8", -100},
            {"((.)*9)*9", -100}, {"((.)*9)*8;(.)*8", 80}, {"((.)*9)*8;(.)*9", -100}, {"(((.)*4)*4)*5", 80},
            {"(((.)*9)*9)*9", -100}, {"(((.)*9)*9)*9;", -15}, {"(((.)*9)*9)*9;.", -100}, {"(((.)*9)*9)*9)", -14},
            {"((.)*9)*9;?", -11}};
        for (Object[] r : rows) {
            PuppetBridge x = leg(1);
            Due.is("a SCORE ahead", Due.score(x, 0, "a1;."), 2);
            int want = (Integer) r[1];
            Due.is("score of \"" + r[0] + "\"", Due.score(x, 0, (String) r[0]), want);
            Due.is("of(0, 7)", x.of(0, 7), want > 0 ? want : 2);
            Due.is("THE TEXT is empty then", x.count(7), 0);
        }
        PuppetBridge x = leg(1);
        Due.score(x, 0, "((.)*9;.)*7;(.)*9;a4");
        x.play(79);
        Due.is("behind the 79th BEAT", x.pulled(0, 0, 0), 0);
        x.play(1);
        Due.is("behind the 80th BEAT", x.pulled(0, 0, 0), 4);
    }

    private static void promise14Depth() {
        Due.is("three in one another", Due.score(leg(1), 0, "(((.)*2)*2)*2"), 8);
        Due.is("a fourth can't stand", Due.score(leg(1), 0, "((((.)*2)*2)*2)*2"), -4);
        Due.is("three beside each other, again and again",
            Due.score(leg(1), 0, "(.)*2;(((.)*2)*2)*2;((.)*2;(.)*2)*2;(.)*2;(.)*2"), 22);
        Due.is("a fourth in all, not in one another", Due.score(leg(1), 0, "(((.)*2;.)*2;((.)*2;(.)*2)*2)*2"), 28);
        Due.is("a fourth behind some that are closed", Due.score(leg(1), 0, "(((.)*2;.)*2;((.)*2;((.)*2)*2)*2)*2"), -22);
        Due.is("times 1", Due.score(leg(1), 0, "(.)*1"), -5);
        Due.is("times 2", Due.score(leg(1), 0, "(.)*2"), 2);
        Due.is("times 9", Due.score(leg(1), 0, "(.)*9"), 9);
        Due.is("times 10", Due.score(leg(1), 0, "(.)*10"), -5);
        Due.is("times 22", Due.score(leg(1), 0, "(.)*22"), -6);
    }

    private static void promise14Letters() {
        for (int strings = 0; strings <= 8; strings++) {
            for (int letter = 0; letter < 9; letter++) {
                String text = (char) ('a' + letter) + "5";
                Due.is("letter " + text + " of " + strings, Due.score(leg(strings), 0, text), letter < strings ? 1 : -1);
                Due.is("letter " + text + " behind .;", Due.score(leg(strings), 0, ".;" + text), letter < strings ? 2 : -3);
            }
        }
        PuppetBridge x = leg(1);
        x.figure(1, 0, 0);
        x.string(1, 0, 1, 1);
        x.string(1, 0, 1, 1);
        Due.is("b of a FIGURE with one STRING", Due.score(x, 0, "b1"), -1);
        Due.is("b of one with two", Due.score(x, 1, "b1"), 1);
        x.string(0, 0, 1, 1);
        Due.is("b, as it has two now", Due.score(x, 0, "b1"), 1);
    }

    private static void promise14Again() {
        PuppetBridge x = leg(1);
        Due.is("empty", x.score(0), -1);
        Due.is("no SCORE", x.of(0, 7), 0);
        Due.is("a SCORE", Due.score(x, 0, "a3;a4"), 2);
        Due.is("empty: the SCORE stays", x.score(0), -1);
        Due.is("none such: asked first", Due.score(x, 1, ""), -101);
        Due.is("none such: asked first", Due.score(x, -1, "?"), -101);
        Due.is("it stays", x.of(0, 7), 2);
        x.play(1);
        Due.is("and is played", x.pulled(0, 0, 0), 3);
        Due.is("a shorter one", Due.score(x, 0, "."), 1);
        Due.is("instead of it", x.of(0, 7), 1);
        x.play(1);
        Due.is("which is at its end", x.pulled(0, 0, 0), 3);
    }

    private static void promise15Range() {
        for (int n : new int[] {-1, -100, 101, 1000, LEAST, GREATEST}) {
            PuppetBridge x = leg(1);
            Due.score(x, 0, "a3");
            Due.is("play(" + n + ")", x.play(n), -1);
            Due.is("refused: BEAT", x.count(1), 0);
            Due.is("refused: PULL", x.pulled(0, 0, 0), 0);
        }
        PuppetBridge x = leg(1);
        Due.score(x, 0, "a3");
        Due.is("play(0)", x.play(0), 0);
        Due.is("nothing is PLAYED", x.pulled(0, 0, 3), 0);
        Due.is("play(1)", x.play(1), 1);
        Due.is("play(100)", x.play(100), 101);
        Due.is("play(99)", x.play(99), 200);
    }

    private static void promise15UpTo1000() {
        PuppetBridge x = leg(1);
        for (int k = 0; k < 9; k++) {
            x.play(100);
        }
        x.play(50);
        Due.is("1001 is above 1000", x.play(51), -1);
        Due.is("refused: BEAT", x.count(1), 950);
        Due.is("1000 is not", x.play(50), 1000);
        Due.is("play(0)", x.play(0), 1000);
        for (int n : new int[] {1, 100, GREATEST, LEAST, -1}) {
            Due.is("play(" + n + ") at 1000", x.play(n), -1);
        }
        Due.is("again", x.again(), 1000);
        Due.is("play(100)", x.play(100), 100);
    }

    private static void promise16() {
        PuppetBridge x = new PuppetBridge();
        Due.is("of nobody", x.again(), 0);
        x.figure(10, 8, 8);
        x.string(0, 0, 1, 5);
        x.string(0, 0, 1, 999);
        Due.score(x, 0, "a9;b4");
        x.set(0, 3);
        x.play(3);
        Due.is("BROKEN", x.of(0, 8), 1);
        x.mend(0, 1, true);
        Due.is("the BEAT that it was", x.again(), 3);
        Due.is("BEAT 0", x.count(1), 0);
        Due.is("all STRINGS whole", x.of(0, 8), 0);
        for (int s = 0; s < 2; s++) {
            Due.is("PULL 0", x.pulled(0, s, 0), 0);
            Due.is("WEAR 0", x.pulled(0, s, 1), 0);
            Due.is("whole", x.pulled(0, s, 2), 0);
            Due.is("WISH 0", x.pulled(0, s, 3), 0);
        }
        Due.is("at REST", x.at(0, 0, 0), 8);
        Due.is("HIP at x BAR, without place()", x.of(0, 2), 0);
        x.play(1);
        Due.is("from the SCORE's first BEAT", x.pulled(0, 0, 0), 3);
        Due.is("of the other one nothing yet", x.pulled(0, 1, 0), 0);
        Due.is("WEAR from 0", x.pulled(0, 0, 1), 3);
    }

    private static void promise16Lift() {
        PuppetBridge x = leg(1);
        Due.score(x, 0, "+9,+9,+9");
        x.play(1);
        Due.is("LIFT", x.of(0, 6), 2700);
        x.again();
        Due.is("LIFT 0 without place()", x.of(0, 6), 0);
        Due.is("it stands again", x.of(0, 5), 1);
        x.place(0, 11, 9999);
        x.place(0, -12, 1300);
        x.play(1);
        Due.is("LIFT", x.of(0, 6), 4000);
        x.pull(0, 0, 3);
        x.again();
        Due.is("LIFT as by place() last", x.of(0, 6), 1300);
        Due.is("HIP's x", x.of(0, 2), -12);
        Due.is("HIP's y", x.of(0, 3), 1300);
        Due.is("STANDS on none", x.of(0, 5), -1);
    }

    private static void promise16Touched() {
        PuppetBridge x = two(0);
        x.play(2);
        Due.is("met", x.met(0, 1), 1);
        x.again();
        Due.is("nobody has met", x.met(0, 1), 0);
        Due.is("they TOUCH now", x.touch(0, 1), 1);
        x.play(1);
        Due.is("nobody had TOUCHED: they meet", x.met(0, 1), 1);
        x.play(1);
        Due.is("and no more", x.met(0, 1), 1);
    }

    private static void promise16Stays() {
        PuppetBridge x = leg(1);
        x.set(0, 2);
        x.set(1, 3);
        x.set(2, 1);
        x.sign(0);
        x.bars(3);
        x.pass(2);
        x.scene(1);
        x.seen(0, 0, 0, 0);
        x.cast(1);
        x.play(1);
        x.again();
        int[] want = {1, 0, 3, 1, 1, 1, 4, 4};
        for (int what = 0; what < 8; what++) {
            Due.is("behind again(): count(" + what + ")", x.count(what), want[what]);
        }
        Due.is("RATE stays", x.set(0, 9), 2);
        Due.is("NEAR stays", x.set(1, 0), 3);
        Due.is("SLIPPERY stays", x.set(2, 0), 1);
    }

    private static void promise17() {
        PuppetBridge x = two(0);
        Due.is("they TOUCH, but no BEAT was", x.met(0, 1), 0);
        x.play(1);
        Due.is("once", x.met(0, 1), 1);
        Due.is("told either way", x.met(1, 0), 1);
        x.play(5);
        Due.is("they did behind the BEAT ahead", x.met(0, 1), 1);
        x.place(1, 50, 100);
        x.place(1, 0, 5000);
        x.play(1);
        Due.is("apart between BEATS alone", x.met(0, 1), 1);
        x.place(1, 5000, 5000);
        x.play(1);
        x.place(1, 0, 5000);
        Due.is("together between BEATS alone", x.met(0, 1), 1);
        x.play(1);
        Due.is("twice", x.met(0, 1), 2);
        x.figure(10, 0, 0);
        Due.is("a new one has met nobody", x.met(0, 2), 0);
        x.place(2, 0, 5000);
        x.play(1);
        Due.is("it meets both", x.met(2, 0) + 10 * x.met(1, 2), 11);
        Due.is("the others go on", x.met(0, 1), 2);
        int[][] wrong = {{0, 0}, {2, 2}, {0, 3}, {3, 0}, {-1, 0}, {0, -1}, {LEAST, 1}, {1, GREATEST}, {4, 4}};
        for (int[] w : wrong) {
            Due.is("met(" + w[0] + ", " + w[1] + ")", x.met(w[0], w[1]), -1);
            Due.is("touch(" + w[0] + ", " + w[1] + ")", x.touch(w[0], w[1]), -1);
            Due.is("meeting(" + w[0] + ", " + w[1] + ", 1)", x.meeting(w[0], w[1], 1), -1);
        }
    }

    /** Each two of four have a number of their own, and again() begins all of them anew. */
    private static void promise17EveryPair() {
        PuppetBridge x = new PuppetBridge();
        for (int f = 0; f < 4; f++) {
            x.figure(1, 0, 0);
        }
        int times = 0;
        for (int a = 0; a < 4; a++) {
            for (int b = a + 1; b < 4; b++) {
                times++;
                for (int k = 0; k < 2 * times; k++) {
                    for (int f = 0; f < 4; f++) {
                        boolean together = k % 2 == 1 && (f == a || f == b);
                        x.place(f, together ? 50000 : 1000 * f, 0);
                    }
                    x.play(1);
                }
            }
        }
        int due = 0;
        for (int a = 0; a < 4; a++) {
            for (int b = a + 1; b < 4; b++) {
                due++;
                Due.is("met(" + a + ", " + b + ")", x.met(a, b), due);
                Due.is("met(" + b + ", " + a + ")", x.met(b, a), due);
            }
        }
        x.again();
        for (int a = 0; a < 4; a++) {
            for (int b = 0; b < 4; b++) {
                Due.is("behind again(): met(" + a + ", " + b + ")", x.met(a, b), a == b ? -1 : 0);
            }
        }
    }

    private static void promise18() {
        for (int near : new int[] {0, 1, 50, 1999, 2000}) {
            int[] offs = {-near - 1, -near, 0, near, near + 1};
            for (int dx : offs) {
                for (int dy : offs) {
                    PuppetBridge x = new PuppetBridge();
                    x.figure(20, 0, 0);
                    x.figure(20, 0, 0);
                    x.place(0, 7, 4000);
                    x.place(1, 7 + dx, 4000 + dy);
                    x.set(1, near);
                    boolean ends = Math.abs(dx) <= near && Math.abs(dy) <= near;
                    boolean hipAndEnd = Math.abs(dx) <= near && 2000 - Math.abs(dy) <= near;
                    int want = ends || hipAndEnd ? 1 : 0;
                    Due.is("NEAR " + near + ", off by " + dx + ", " + dy, x.touch(0, 1), want);
                    Due.is("told either way", x.touch(1, 0), want);
                }
            }
        }
        PuppetBridge y = two(100000);
        y.place(0, -100000, 0);
        y.set(1, 2000);
        Due.is("the farthest apart", y.touch(0, 1), 0);
    }

    private static void promise19Range() {
        for (int n : new int[] {0, -1, 101, LEAST, GREATEST}) {
            Due.is("n " + n, two(0).meeting(0, 1, n), -1);
        }
        for (int n : new int[] {1, 2, 99, 100}) {
            Due.is("n " + n, two(0).meeting(0, 1, n), 0);
        }
        PuppetBridge x = two(0);
        for (int k = 0; k < 9; k++) {
            x.play(100);
        }
        Due.is("BEAT and n 1000", x.meeting(0, 1, 100), 0);
        x.play(1);
        Due.is("BEAT and n 1001", x.meeting(0, 1, 100), -1);
        Due.is("BEAT and n 1000", x.meeting(0, 1, 99), 0);
        x.play(99);
        Due.is("BEAT 1000, n 1", x.meeting(0, 1, 1), -1);
    }

    /** They TOUCH behind the last BEAT asked, or one too late. */
    private static void promise19LastBeat() {
        PuppetBridge x = two(2000);
        Due.score(x, 0, "((.)*9)*8;(.)*7;a4");
        x.place(0, 0, 6000);
        x.place(1, 1000, 6000);
        Due.is("n 79", x.meeting(0, 1, 79), -1);
        Due.is("n 80: the last of them", x.meeting(0, 1, 80), 79);
        Due.is("n 81", x.meeting(0, 1, 81), 79);
        x.play(79);
        Due.is("of those to come the first", x.meeting(0, 1, 1), 0);
        x.play(1);
        Due.is("met", x.met(0, 1), 1);
        PuppetBridge z = two(1000);
        Due.score(z, 1, ".;.;a4");
        z.place(0, 2000, 5000);
        Due.is("the other one moves", z.meeting(0, 1, 3), 2);
        Due.is("told either way", z.meeting(1, 0, 3), 2);
        z.play(2);
        Due.is("told either way, of those to come", z.meeting(1, 0, 1) + z.meeting(0, 1, 1), 0);
        PuppetBridge y = two(0);
        Due.score(y, 0, "+9;.;-9");
        Due.is("now, but behind that BEAT no more", y.meeting(0, 1, 1), -1);
        Due.is("then again", y.meeting(0, 1, 3), 2);
    }

    private static void promise19NothingChanges() {
        PuppetBridge x = new PuppetBridge();
        for (int f = 0; f < 2; f++) {
            x.figure(10, 8, 8);
            x.string(f, 0, 1, 5);
            x.place(f, 9000 * f, 0);
            Due.score(x, f, "a9,+3");
        }
        x.set(0, 2);
        x.play(1);
        Due.is("none", x.meeting(0, 1, 100), -1);
        Due.is("BEAT", x.count(1), 1);
        for (int f = 0; f < 2; f++) {
            int[] want = {2, 2, 0, 9};
            for (int what = 0; what < 4; what++) {
                Due.is("pulled(" + f + ", 0, " + what + ")", x.pulled(f, 0, what), want[what]);
            }
            Due.is("HIP", x.of(f, 2), 9000 * f + 710);
            Due.is("LIFT", x.of(f, 6), 300);
        }
        Due.is("met", x.met(0, 1), 0);
    }

    private static void promise20() {
        PuppetBridge x = leg(1);
        x.figure(1, 0, 0);
        x.play(3);
        x.bars(4);
        for (int k = 0; k < 4; k++) {
            x.pass(1 + k % 3);
        }
        for (int k = 0; k < 5; k++) {
            x.scene(1);
        }
        for (int k = 0; k < 6; k++) {
            x.seen(0, 0, 0, 0);
        }
        x.cast(1);
        x.sign(0);
        x.end(3);
        int[] want = {2, 3, 4, 4, 5, 6, 20, 3};
        for (int what = 0; what < 8; what++) {
            Due.is("count(" + what + ")", x.count(what), want[what]);
        }
        for (int what : new int[] {-1, 8, LEAST, GREATEST}) {
            Due.is("count(" + what + ")", x.count(what), -1);
        }
    }

    private static void termItems() {
        PuppetBridge x = leg(8);
        Due.is("all ITEMS in order", Due.score(x, 0, "a9,a0,a4,b9,h0,h9,+1,-9,+2,c1,c2;."), 2);
        x.play(1);
        int[] want = {4, 9, 2, 0, 0, 0, 0, 9};
        for (int s = 0; s < 8; s++) {
            Due.is("the last WISH of STRING " + s, x.pulled(0, s, 3), want[s]);
            Due.is("its PULL", x.pulled(0, s, 0), want[s]);
            Due.is("it went once", x.pulled(0, s, 1), want[s]);
        }
        Due.is("LIFT 0 is kept on the way", x.of(0, 6), 200);
        PuppetBridge y = leg(1);
        Due.score(y, 0, "a0,+0,-0");
        y.play(1);
        Due.is("digits 0", y.of(0, 6) + y.pulled(0, 0, 0), 0);
    }

    private static void termRate() {
        for (int rate = 1; rate <= 9; rate++) {
            PuppetBridge x = leg(1);
            x.set(0, rate);
            Due.score(x, 0, "(a9)*9;a0");
            int pull = 0;
            for (int b = 0; b < 19; b++) {
                x.play(1);
                pull = b < 9 ? Math.min(9, pull + rate) : Math.max(0, pull - rate);
                Due.is("RATE " + rate + " behind BEAT " + b, x.pulled(0, 0, 0), pull);
            }
            Due.is("RATE " + rate + ": WEAR", x.pulled(0, 0, 1), 18);
        }
    }

    private static void termWear() {
        PuppetBridge x = new PuppetBridge();
        x.figure(10, 8, 8);
        x.string(0, 0, 1, 9);
        Due.score(x, 0, "a9;a8;a3");
        x.play(1);
        Due.is("WEAR is STRENGTH", x.pulled(0, 0, 2), 0);
        Due.is("it pulls", x.at(0, 0, 0), 0);
        x.play(1);
        Due.is("WEAR is above STRENGTH", x.pulled(0, 0, 2), 1);
        Due.is("from then on it pulls nothing", x.at(0, 0, 0), 8);
        Due.is("its PULL went", x.pulled(0, 0, 0), 8);
        x.play(1);
        Due.is("it goes on towards its WISH", x.pulled(0, 0, 0), 3);
        Due.is("not of a BROKEN one", x.pulled(0, 0, 1), 10);
    }

    private static void termLift() {
        PuppetBridge x = leg(0);
        x.place(0, 0, 9998);
        Due.score(x, 0, "+0;+1;+9;-0;-9,+9;-1");
        int[] want = {9998, 9999, 9999, 9999, 9999, 9899};
        for (int b = 0; b < want.length; b++) {
            x.play(1);
            Due.is("LIFT behind BEAT " + b, x.of(0, 6), want[b]);
        }
        PuppetBridge y = leg(0);
        y.place(0, 0, 101);
        Due.score(y, 0, "-1;-0;-1;-9;+1;-2,+1");
        int[] low = {1, 1, 0, 0, 100, 100};
        for (int b = 0; b < low.length; b++) {
            y.play(1);
            Due.is("LIFT behind BEAT " + b, y.of(0, 6), low[b]);
        }
    }

    private static void termEndOfScore() {
        PuppetBridge x = leg(1);
        Due.score(x, 0, "+1,a1");
        x.play(1);
        x.play(100);
        Due.is("at its end it does nothing more: LIFT", x.of(0, 6), 100);
        x.pull(0, 0, 0);
        x.play(1);
        Due.is("at its end it does nothing more: WISH", x.pulled(0, 0, 3), 0);
        Due.is("a SCORE for a later BEAT", Due.score(x, 0, "((+1)*9)*8;(+1)*8"), 80);
        x.play(1);
        Due.is("BEAT 102 is behind its end", x.of(0, 6), 100);
    }
}
