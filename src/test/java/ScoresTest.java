/** Promises 12 to 20: the text, scores, the play, who meets whom, counts. */
public final class ScoresTest {
    public static void main(String[] args) {
        text();
        texts();
        longTexts();
        scoreStays();
        scoreOfNoFigure();
        playing();
        behindTheEnd();
        wearing();
        lifting();
        walking();
        again();
        meeting();
        manyLimbs();
        limits();
        Due.finish("ScoresTest");
    }

    private static PuppetBridge withStrings(int n) {
        PuppetBridge x = new PuppetBridge();
        x.figure(10, 8, 8);
        for (int s = 0; s < n; s++) {
            x.string(0, 0, s % 2 == 0 ? 1 : -1, 999);
        }
        return x;
    }

    private static void text() {
        PuppetBridge x = withStrings(2);
        Due.no("end(1) of none", x.end(1));
        Due.no("end(-1)", x.end(-1));
        for (int i = 1; i <= 25; i++) {
            Due.is("sign", x.sign(-1), 4 * i);
        }
        Due.is("sign above 100", x.sign(0), -1);
        Due.is("count(7)", x.count(7), 100);
        Due.no("end(101)", x.end(101));
        Due.yes("end(97)", x.end(97));
        Due.is("sign above 100", x.sign(0), -1);
        Due.yes("end(96)", x.end(96));
        Due.is("sign", x.sign(0), 100);
        Due.yes("end(0)", x.end(0));
        Due.is("sign: highest byte first", x.sign('a' << 24 | '1' << 16 | ';' << 8 | '.'), 4);
        Due.is("score", x.score(0), 2);
        Due.is("THE TEXT is empty then", x.count(7), 0);
        x.sign(0xE1313B2E);
        Due.is("a sign above 127", x.score(0), -1);
    }

    private static void scoreOfNoFigure() {
        for (int none : new int[] {1, 3, 4, -1, Integer.MIN_VALUE, Integer.MAX_VALUE}) {
            PuppetBridge x = withStrings(2);
            Due.is("score", Due.score(x, 0, "a1;."), 2);
            Due.is("no such figure, THE TEXT being empty", x.score(none), -101);
            x.sign('a' << 24 | '2' << 16 | ';' << 8 | '.');
            Due.is("no such figure", x.score(none), -101);
            Due.is("THE TEXT is empty then too", x.count(7), 0);
            x.sign('?' << 24 | '?' << 16 | '?' << 8 | '?');
            Due.is("no such figure is asked first", x.score(none), -101);
            Due.is("THE TEXT is empty then too", x.count(7), 0);
            x.sign('a' << 24 | '3' << 16 | ';' << 8 | '.');
            Due.is("nothing is left of it", x.score(0), 2);
            Due.is("another SCORE", Due.score(x, 0, ".;.;."), 3);
            Due.is("no such figure", Due.score(x, none, "."), -101);
            Due.is("the SCORE of another FIGURE stays", x.of(0, 7), 3);
        }
        PuppetBridge y = new PuppetBridge();
        y.sign('.' << 24 | '.' << 16 | '.' << 8 | '.');
        Due.is("no FIGURES at all", y.score(0), -101);
        Due.is("THE TEXT is empty then too", y.count(7), 0);
    }

    private static void texts() {
        Object[][] rows = {
            {"", -1}, {".", 1}, {"a", -2}, {"a0", 1}, {"a9", 1}, {"b3", 1}, {"c3", -1}, {"h1", -1}, {"A1", -1},
            {"`1", -1}, {"aa", -2}, {"a1b", -3}, {"a1,", -4}, {"a1,.", -4}, {"a1,a1", 1}, {"a1,b2,+3,-4", 1}, {"a1,(", -4},
            {"+", -2}, {"+0", 1}, {"-9", 1}, {"+a", -2}, {"-+", -2}, {"-:", -2}, {"-/", -2}, {"..", -2}, {".,", -2}, {".;", -3},
            {";", -1}, {".;;", -3}, {".;.", 2}, {")", -1}, {".)", -2}, {"*", -1}, {".*", -2}, {"()", -2}, {"(.", -3},
            {"(.)", -4}, {"(.)*", -5}, {"(.)*0", -5}, {"(.)*1", -5}, {"(.)*2", 2}, {"(.)*9", 9}, {"(.)*:", -5}, {"(.)2", -4},
            {"(.)*2*2", -6}, {"(.)*2;.", 3}, {"(.)*2,a1", -6}, {"(.)*2.", -6}, {"(.)*2(", -6}, {"(.;)*2", -4}, {"(;.)*2", -2},
            {".(", -2}, {"a1(.)*2", -3}, {"((.)*2)*3", 6}, {"(((.)*2)*2)*2", 8}, {"((((.)*2)*2)*2)*2", -4},
            {"(.)*2;((.)*3;(.;.)*2)*2", 16}, {"(.)*2)", -6}, {" .", -1}, {". ", -2}, {"a 1", -2},
            {"((.)*8)*9", 72}, {"((.)*9)*9", -100}, {"((.)*8;.)*9", -100}, {"((.)*8;.;.)*8", 80},
            {"((.)*8;.;.)*8;.", -100}, {".;((.)*8;.;.)*8", -100}, {"(((.)*9)*9)*9", -100}, {"(((.)*9)*9)*9;", -15},
            {"(((.)*9)*9)*9;c1", -15}};
        for (Object[] r : rows) {
            PuppetBridge x = withStrings(2);
            String call = "score of \"" + r[0] + "\"";
            int want = (Integer) r[1];
            Due.is(call, Due.score(x, 0, (String) r[0]), want);
            Due.is(call + ": BEATS", x.of(0, 7), Math.max(0, want));
            Due.is(call + ": signs then", x.count(7), 0);
        }
        PuppetBridge x = withStrings(8);
        Due.is("all eight letters", Due.score(x, 0, "a1,b1,c1,d1,e1,f1,g1,h1"), 1);
        Due.is("a ninth letter", Due.score(x, 0, "i1"), -1);
        PuppetBridge y = withStrings(0);
        Due.is("no letters without strings", Due.score(y, 0, "a1"), -1);
    }

    private static void longTexts() {
        String thirty = ".;".repeat(30);
        Due.is("59 signs", Due.score(withStrings(1), 0, thirty.substring(0, 59)), 30);
        Due.is("60 signs that end too early", Due.score(withStrings(1), 0, thirty), -61);
        String sixty = "a1;".repeat(19) + ".;.";
        Due.is("60 signs", Due.score(withStrings(1), 0, sixty), 21);
        Due.is("61 signs, the first 60 could end", Due.score(withStrings(1), 0, sixty + ";"), -61);
        Due.is("61 signs, the first 60 could go on", Due.score(withStrings(1), 0, thirty + "."), -61);
        Due.is("64 signs, the last of which are wrong", Due.score(withStrings(1), 0, sixty + "????"), -61);
        Due.is("64 signs, one ahead is wrong", Due.score(withStrings(1), 0, sixty.substring(0, 59) + "?;.;."), -60);
        Due.is("100 signs", Due.score(withStrings(1), 0, ".;".repeat(50)), -61);
        Due.is("100 signs, the first is wrong", Due.score(withStrings(1), 0, "?".repeat(100)), -1);
    }

    private static void scoreStays() {
        PuppetBridge x = withStrings(1);
        Due.is("score", Due.score(x, 0, "a1;a2;a3"), 3);
        Due.is("wrong sign", Due.score(x, 0, "a1;a2;a3;?"), -10);
        Due.is("too many", Due.score(x, 0, "((.)*9)*9"), -100);
        Due.is("the SCORE stays", x.of(0, 7), 3);
        x.play(2);
        Due.is("and is played", x.pulled(0, 0, 0), 2);
        Due.is("another SCORE", Due.score(x, 0, "a9;a8;a7;a6"), 4);
        x.play(1);
        Due.is("it began at BEAT 0 of the PLAY", x.pulled(0, 0, 0), 7);
    }

    private static void playing() {
        PuppetBridge x = withStrings(2);
        Due.is("score", Due.score(x, 0, "a9,b4,a5;.;(a0;b9)*2;+3,-1"), 7);
        x.set(0, 3);
        int[][] want = {{3, 5, 3, 4}, {5, 5, 4, 4}, {2, 0, 4, 4}, {0, 0, 7, 9}, {0, 0, 9, 9}, {0, 0, 9, 9}, {0, 0, 9, 9}};
        for (int b = 0; b < want.length; b++) {
            Due.is("play(1)", x.play(1), b + 1);
            Due.is("PULL of a behind " + b, x.pulled(0, 0, 0), want[b][0]);
            Due.is("WISH of a behind " + b, x.pulled(0, 0, 3), want[b][1]);
            Due.is("PULL of b behind " + b, x.pulled(0, 1, 0), want[b][2]);
            Due.is("WISH of b behind " + b, x.pulled(0, 1, 3), want[b][3]);
        }
        Due.is("LIFT", x.of(0, 6), 200);
        Due.is("count(1)", x.count(1), 7);
        Due.is("play(0)", x.play(0), 7);
    }

    private static void behindTheEnd() {
        PuppetBridge x = withStrings(1);
        x.set(0, 2);
        Due.score(x, 0, "a9");
        x.play(1);
        Due.is("PULL behind the last BEAT", x.pulled(0, 0, 0), 2);
        x.play(2);
        Due.is("it goes on towards its WISH", x.pulled(0, 0, 0), 6);
        x.pull(0, 0, 1);
        x.play(2);
        Due.is("pull() is its WISH too", x.pulled(0, 0, 0), 1);
        Due.is("play without end", x.play(100), 105);
    }

    private static void wearing() {
        PuppetBridge x = new PuppetBridge();
        x.figure(10, 8, 8);
        x.string(0, 0, 1, 7);
        x.set(0, 4);
        Due.score(x, 0, "a9;.;.;a0");
        x.play(1);
        Due.is("WEAR", x.pulled(0, 0, 1), 4);
        Due.is("HEADING", x.at(0, 0, 0), 12);
        x.play(1);
        Due.is("WEAR", x.pulled(0, 0, 1), 8);
        Due.is("BROKEN", x.pulled(0, 0, 2), 1);
        Due.is("PULL", x.pulled(0, 0, 0), 8);
        Due.is("HEADING", x.at(0, 0, 0), 8);
        x.play(2);
        Due.is("a BROKEN one goes on", x.pulled(0, 0, 0), 5);
        Due.is("without WEAR", x.pulled(0, 0, 1), 8);
        Due.is("WISH", x.pulled(0, 0, 3), 0);
    }

    private static void lifting() {
        PuppetBridge x = withStrings(0);
        x.place(0, 0, 9900);
        Due.score(x, 0, "+9,-1;+1;-0;(-9;-9)*6");
        int[] want = {9899, 9999, 9999, 9099, 8199};
        for (int lift : want) {
            x.play(1);
            Due.is("LIFT", x.of(0, 6), lift);
        }
        x.play(50);
        Due.is("LIFT at last", x.of(0, 6), 0);
        Due.is("SLACK", x.of(0, 4), 1000);
    }

    private static void walking() {
        PuppetBridge x = withStrings(1);
        Due.score(x, 0, "+9,a2,-9;+9,+9,a0;-9;-9;a1");
        x.play(1);
        Due.is("made anew once: the foot held", x.at(0, 0, 1), 0);
        Due.is("HIP", x.of(0, 2), 710);
        x.play(1);
        Due.is("lifted: x as it was", x.of(0, 2), 710);
        Due.is("STANDS", x.of(0, 5), -1);
        x.play(1);
        Due.is("down again", x.of(0, 5), 1);
        Due.is("x as it was", x.of(0, 2), 710);
        x.play(2);
        Due.is("the foot holds where it came down", x.at(0, 0, 1), 710);
        Due.is("HIP", x.of(0, 2), 1090);
    }

    private static void again() {
        PuppetBridge x = withStrings(2);
        x.place(0, 300, 20);
        Due.score(x, 0, "a3,+5;b2");
        x.play(3);
        x.mend(0, 1, true);
        Due.is("again", x.again(), 3);
        Due.is("again", x.again(), 0);
        for (int s = 0; s < 2; s++) {
            for (int what = 0; what < 4; what++) {
                Due.is("pulled(0, " + s + ", " + what + ")", x.pulled(0, s, what), 0);
            }
        }
        Due.is("HIP", x.of(0, 2), 300);
        Due.is("LIFT", x.of(0, 6), 20);
        Due.is("y", x.of(0, 3), 1000);
        Due.is("HEADING", x.at(0, 0, 0), 8);
        Due.is("the SCORE stays", x.of(0, 7), 2);
        x.play(1);
        Due.is("and is played anew", x.pulled(0, 0, 0), 3);
    }

    private static void meeting() {
        PuppetBridge x = withStrings(1);
        x.figure(10, 8, 8);
        x.string(1, 0, 1, 999);
        x.place(1, 3000, 0);
        x.set(1, 500);
        Due.score(x, 0, "a4;a0;a4;a0");
        Due.is("touch", x.touch(0, 1), 0);
        Due.is("meeting: none", x.meeting(0, 1, 100), -1);
        x.place(1, -1500, 0);
        Due.is("meeting: the first", x.meeting(0, 1, 4), 0);
        Due.is("met", x.met(0, 1), 0);
        x.set(1, 0);
        x.place(1, -1000, 1000);
        Due.is("LIFT changes nothing on the FLOOR", x.of(1, 5), 1);
        Due.is("touch", x.touch(0, 1), 0);
        Due.is("meeting", x.meeting(1, 0, 1), 0);
        x.play(1);
        Due.is("met", x.met(1, 0), 1);
        Due.is("touch", x.touch(1, 0), 1);
        Due.is("meeting of those to come", x.meeting(0, 1, 3), 1);
        x.play(1);
        Due.is("apart", x.touch(0, 1), 0);
        Due.is("met", x.met(0, 1), 1);
        Due.is("meeting: 0 is the next", x.meeting(0, 1, 3), 0);
        x.play(1);
        Due.is("met twice", x.met(0, 1), 2);
        x.place(1, 5000, 0);
        x.place(1, -1000, 1000);
        x.set(0, 1);
        Due.score(x, 0, ".");
        x.play(1);
        Due.is("they did behind the BEAT ahead", x.met(0, 1), 2);
        int[][] wrong = {{0, 0}, {0, 2}, {2, 0}, {-1, 0}, {0, -1}};
        for (int[] w : wrong) {
            Due.is("met of others", x.met(w[0], w[1]), -1);
            Due.is("touch of others", x.touch(w[0], w[1]), -1);
            Due.is("meeting of others", x.meeting(w[0], w[1], 5), -1);
        }
        Due.is("meeting, n 0", x.meeting(0, 1, 0), -1);
        Due.is("meeting, n 101", x.meeting(0, 1, 101), -1);
        Due.is("meeting, n 1", x.meeting(0, 1, 1), 0);
        x.again();
        Due.is("nobody has met", x.met(0, 1), 0);
        near();
    }

    /** A FIGURE of eight LIMBS that holds by the end of the last one, foreseen and played. */
    private static void manyLimbs() {
        PuppetBridge x = new PuppetBridge();
        x.figure(10, 4, 8);
        for (int k = 1; k < 8; k++) {
            x.limb(0, k - 1, 1, 10, k == 7 ? 8 : 4, 8);
        }
        x.string(0, 7, 1, 999);
        x.figure(1, 0, 0);
        Due.is("STANDS on the last", x.of(0, 5), 8);
        Due.is("its x", x.at(0, 7, 1), 7000);
        Due.score(x, 0, "a1");
        x.place(1, 380, 920);
        Due.is("meeting at the HIP", x.meeting(0, 1, 1), 0);
        x.place(1, 0, 920);
        Due.is("not where it was", x.meeting(0, 1, 1), -1);
        x.place(1, 380, 920);
        x.play(1);
        Due.is("HIP", x.of(0, 2), 380);
        Due.is("the last end holds", x.at(0, 7, 1), 7000);
        Due.is("met", x.met(0, 1), 1);
    }

    private static void near() {
        PuppetBridge x = new PuppetBridge();
        x.figure(1, 0, 0);
        x.figure(1, 0, 0);
        x.place(0, 0, 1000);
        for (int dx = -3; dx <= 3; dx++) {
            for (int dy = -3; dy <= 3; dy++) {
                x.place(1, dx, 1000 + dy);
                x.set(1, 2);
                Due.is("touch at " + dx + ", " + dy, x.touch(0, 1), Math.abs(dx) <= 2 && Math.abs(dy) <= 2 ? 1 : 0);
            }
        }
        x.place(1, 0, 1100);
        x.set(1, 0);
        Due.is("the HIP of one and the end of the other", x.touch(0, 1), 1);
    }

    private static void limits() {
        PuppetBridge x = withStrings(1);
        x.figure(10, 8, 8);
        x.place(1, 9, 0);
        Due.is("play(-1)", x.play(-1), -1);
        Due.is("play(101)", x.play(101), -1);
        for (int i = 1; i <= 9; i++) {
            Due.is("play(100)", x.play(100), 100 * i);
        }
        Due.is("play(99)", x.play(99), 999);
        Due.is("above 1000", x.play(2), -1);
        Due.is("meeting up to 1000", x.meeting(0, 1, 1), -1);
        x.place(1, 0, 0);
        Due.is("meeting up to 1000", x.meeting(0, 1, 1), 0);
        Due.is("meeting above 1000", x.meeting(0, 1, 2), -1);
        Due.is("play(1)", x.play(1), 1000);
        Due.is("play(0)", x.play(0), 1000);
        Due.is("play(1) above 1000", x.play(1), -1);
        Due.is("count(1)", x.count(1), 1000);
        Due.is("count(8)", x.count(8), -1);
        Due.is("count(-1)", x.count(-1), -1);
        Due.is("again", x.again(), 1000);
    }
}
