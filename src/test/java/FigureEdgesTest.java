import java.util.function.IntUnaryOperator;

/** The boundary cases of promises 1 to 11 and of the first term, sentence by sentence. */
public final class FigureEdgesTest {
    private static final int LEAST = Integer.MIN_VALUE;
    private static final int GREATEST = Integer.MAX_VALUE;

    public static void main(String[] args) {
        promise1New();
        promise1Apart();
        promise2Shapes();
        promise2Full();
        promise2InThePlay();
        promise3Shapes();
        promise3OnWhat();
        promise3Full();
        promise4Shapes();
        promise4Full();
        promise4Strength();
        promise5();
        promise6Range();
        promise6Most();
        promise6Wear();
        promise7();
        promise7AllEight();
        promise8();
        promise9();
        promise10();
        promise11();
        termFloor();
        termHolds();
        termHoldsByLift();
        termWrapsBy16();
        Due.finish("FigureEdgesTest");
    }

    /** Of v, just the numbers from low to high are taken; what is asked makes a new object each time. */
    private static void range(String call, int low, int high, IntUnaryOperator asks) {
        int[] out = {low - 1, high + 1, LEAST, GREATEST, low - 16, high + 16, low + 256, low - 65536};
        for (int v : out) {
            if (v < low || v > high) {
                Due.is(call + " with " + v, asks.applyAsInt(v), -1);
            }
        }
        for (int v = low; v <= high; v += Math.max(1, (high - low) / 7)) {
            Due.yes(call + " with " + v, asks.applyAsInt(v) >= 0);
        }
        Due.yes(call + " with " + high, asks.applyAsInt(high) >= 0);
    }

    private static int flag(boolean b) {
        return b ? 1 : -1;
    }

    /** A leg that hangs down, with so many strings. */
    private static PuppetBridge leg(int strings) {
        PuppetBridge x = new PuppetBridge();
        x.figure(10, 8, 8);
        for (int s = 0; s < strings; s++) {
            x.string(0, 0, s % 2 == 0 ? 1 : -1, 999);
        }
        return x;
    }

    private static void promise1New() {
        PuppetBridge x = new PuppetBridge();
        int[] counts = {0, 0, 2, 0, 0, 0, 0, 0};
        for (int what = 0; what < 8; what++) {
            Due.is("new: count(" + what + ")", x.count(what), counts[what]);
        }
        Due.none("new: row(0)", () -> x.row(0));
        Due.none("new: of(0, 0)", () -> x.of(0, 0));
        Due.none("new: at(0, 0, 0)", () -> x.at(0, 0, 0));
        Due.none("new: reach", () -> x.reach(0, 0, 1, 0, 0));
        Due.is("new: pulled", x.pulled(0, 0, 0), -1);
        Due.is("new: limb", x.limb(0, 0, 0, 1, 0, 0), -1);
        Due.is("new: string", x.string(0, 0, 1, 1), -1);
        Due.no("new: place", x.place(0, 0, 0));
        Due.no("new: pull", x.pull(0, 0, 0));
        Due.no("new: mend", x.mend(0, 0, false));
        Due.is("new: met", x.met(0, 1), -1);
        Due.is("new: touch", x.touch(0, 1), -1);
        Due.is("new: meeting", x.meeting(0, 1, 1), -1);
        Due.is("new: seen", x.seen(0, 0, 0, 0), -1);
        Due.is("new: broken", x.broken(0), -1);
        Due.is("new: score", x.score(0), -101);
        Due.no("new: back", x.back());
        Due.yes("new: end(0)", x.end(0));
        Due.no("new: end(1)", x.end(1));
        Due.is("new: free", x.free(), 1);
        Due.is("new: alike(0)", x.alike(0), 1);
        Due.is("new: alike(1)", x.alike(1), -1);
        Due.is("new: undo", x.undo(), 0);
        Due.is("new: cast", x.cast(1), 0);
        Due.is("new: clear", x.clear(), 0);
        Due.is("new: wound", x.wound(0, 1), 0);
        Due.is("new: wound(0, 2)", x.wound(0, 2), -1000);
        Due.is("new: RATE", x.set(0, 1), 9);
        Due.is("new: NEAR", x.set(1, 1), 0);
        Due.is("new: SLIPPERY", x.set(2, 1), 0);
        Due.is("new: play(3) of nobody", x.play(3), 3);
        Due.is("new: again", x.again(), 3);
    }

    private static void promise1Apart() {
        PuppetBridge x = leg(1);
        x.set(0, 3);
        x.pull(0, 0, 4);
        x.sign(0);
        x.pass(1);
        x.scene(1);
        x.cast(1);
        x.play(1);
        PuppetBridge y = new PuppetBridge();
        for (int what = 0; what < 8; what++) {
            Due.is("another object: count(" + what + ")", y.count(what), what == 2 ? 2 : 0);
        }
        Due.is("another object: RATE", y.set(0, 5), 9);
        Due.is("another object: bar(0)", y.bar(0), 0);
        y.figure(3, 3, 3);
        Due.is("the first one stays", x.at(0, 0, 0), 12);
    }

    private static void promise2Shapes() {
        range("figure: LENGTH", 1, 20, v -> new PuppetBridge().figure(v, 0, 0));
        range("figure: REST", 0, 15, v -> new PuppetBridge().figure(1, v, 0));
        range("figure: MOST", 0, 8, v -> new PuppetBridge().figure(1, 0, v));
        PuppetBridge x = new PuppetBridge();
        Due.is("refused", x.figure(0, 0, 0), -1);
        Due.is("a refused one takes no number", x.figure(1, 0, 0), 0);
        Due.is("refused", x.figure(1, 16, 0), -1);
        Due.is("a refused one takes no number", x.figure(20, 12, 0), 1);
        Due.is("LENGTH 1", x.at(0, 0, 2), 100);
        Due.is("LENGTH 20", x.at(1, 0, 1), -2000);
    }

    private static void promise2Full() {
        PuppetBridge x = new PuppetBridge();
        for (int f = 0; f < 4; f++) {
            Due.is("figure " + f, x.figure(1 + f, 4, 0), f);
        }
        for (int again = 0; again < 3; again++) {
            Due.is("a fifth", x.figure(9, 0, 0), -1);
        }
        Due.is("count(0)", x.count(0), 4);
        for (int f = 0; f < 4; f++) {
            Due.is("each is as it was", x.at(f, 0, 1), 100 * (1 + f));
        }
        Due.none("of the fifth", () -> x.of(4, 0));
        Due.is("limb of the fifth", x.limb(4, 0, 0, 1, 0, 0), -1);
        Due.is("string of the fifth", x.string(4, 0, 1, 1), -1);
        Due.no("place of the fifth", x.place(4, 0, 0));
        Due.is("touch of the last two", x.touch(2, 3), 1);
        Due.is("touch of the fifth", x.touch(3, 4), -1);
        Due.is("score of the fifth", x.score(4), -101);
        Due.is("seen of the fifth", x.seen(4, 0, 0, 0), -1);
        Due.is("broken of the fifth", x.broken(4), -1);
        Due.is("broken of the fourth", x.broken(3), 1);
    }

    private static void promise2InThePlay() {
        PuppetBridge x = leg(1);
        x.play(2);
        Due.is("a FIGURE in the PLAY", x.figure(10, 8, 8), 1);
        x.string(1, 0, 1, 999);
        int[] want = {1, 1, 0, 1000, 1000, 1, 0, 0, 0};
        for (int what = 0; what < 9; what++) {
            Due.is("at first of(1, " + what + ")", x.of(1, what), want[what]);
        }
        Due.is("all SCORES begin at BEAT 0 of the PLAY", Due.score(x, 1, "a1;a2;a3;a4"), 4);
        x.play(1);
        Due.is("so BEAT 2 comes first", x.pulled(1, 0, 0), 3);
        Due.is("its foot and the other one's have met at this BEAT", x.met(0, 1), 1);
    }

    private static void promise3Shapes() {
        range("limb: LENGTH", 1, 20, v -> leg(0).limb(0, 0, 0, v, 0, 0));
        range("limb: REST", 0, 15, v -> leg(0).limb(0, 0, 0, 1, v, 0));
        range("limb: MOST", 0, 8, v -> leg(0).limb(0, 0, 0, 1, 0, v));
        range("limb: END", 0, 1, v -> leg(0).limb(0, 0, v, 1, 0, 0));
        range("limb: FIGURE", 0, 0, v -> leg(0).limb(v, 0, 0, 1, 0, 0));
        range("limb: on", 0, 0, v -> leg(0).limb(0, v, 0, 1, 0, 0));
    }

    private static void promise3OnWhat() {
        PuppetBridge x = leg(0);
        x.place(0, 0, 5000);
        Due.is("on itself", x.limb(0, 1, 0, 1, 0, 0), -1);
        Due.is("on LIMB 0's beginning", x.limb(0, 0, 0, 20, 4, 0), 1);
        Due.is("begins at the HIP", x.at(0, 1, 1), 2000);
        Due.is("on itself", x.limb(0, 2, 1, 1, 0, 0), -1);
        Due.is("on the end of LIMB 1", x.limb(0, 1, 1, 1, 4, 0), 2);
        Due.is("farther by one", x.at(0, 2, 1), 2100);
        Due.is("on the beginning of LIMB 2", x.limb(0, 2, 0, 1, 0, 0), 3);
        Due.is("where LIMB 1 ends: x", x.at(0, 3, 1), 2000);
        Due.is("where LIMB 1 ends: y", x.at(0, 3, 2), 5100);
        Due.is("on the beginning of LIMB 3", x.limb(0, 3, 0, 1, 8, 0), 4);
        Due.is("there too: x", x.at(0, 4, 1), 2000);
        Due.is("there too: y", x.at(0, 4, 2), 4900);
        x.figure(1, 0, 0);
        Due.is("of another FIGURE that has no LIMB 1", x.limb(1, 1, 0, 1, 0, 0), -1);
    }

    private static void promise3Full() {
        PuppetBridge x = leg(0);
        x.figure(1, 0, 0);
        for (int k = 1; k < 8; k++) {
            Due.is("limb " + k, x.limb(0, k - 1, 1, 20, 8, 8), k);
        }
        for (int on = 0; on < 9; on++) {
            Due.is("a ninth on " + on, x.limb(0, on, 1, 1, 0, 0), -1);
        }
        Due.is("of(0, 0)", x.of(0, 0), 8);
        Due.is("the longest leg", x.of(0, 3), 1000 + 7 * 2000);
        Due.is("SLACK", x.of(0, 4), 15000);
        Due.is("STANDS on the last end", x.of(0, 5), 8);
        Due.is("the other FIGURE is not full", x.limb(1, 0, 1, 1, 0, 0), 1);
        Due.none("at of a ninth", () -> x.at(0, 8, 0));
        Due.is("string of a ninth", x.string(0, 8, 1, 1), -1);
        Due.is("string of the eighth", x.string(0, 7, 1, 1), 0);
    }

    private static void promise4Shapes() {
        range("string: FIGURE", 0, 0, v -> leg(0).string(v, 0, 1, 1));
        range("string: LIMB", 0, 0, v -> leg(0).string(0, v, 1, 1));
        range("string: STRENGTH", 1, 999, v -> leg(0).string(0, 0, 1, v));
        int[] sides = {0, 2, -2, 17, -17, 255, 256, LEAST, GREATEST};
        for (int side : sides) {
            Due.is("string: SIDE " + side, leg(0).string(0, 0, side, 1), -1);
        }
        Due.is("string: SIDE 1", leg(0).string(0, 0, 1, 1), 0);
        Due.is("string: SIDE -1", leg(0).string(0, 0, -1, 1), 0);
    }

    private static void promise4Full() {
        PuppetBridge x = leg(8);
        x.figure(1, 0, 0);
        Due.is("a ninth", x.string(0, 0, 1, 1), -1);
        Due.is("of(0, 1)", x.of(0, 1), 8);
        Due.is("a ninth has no PULL", x.pulled(0, 8, 0), -1);
        Due.no("a ninth can't be pulled", x.pull(0, 8, 1));
        Due.no("a ninth can't be mended", x.mend(0, 8, true));
        Due.yes("the eighth can", x.pull(0, 7, 3));
        Due.is("the eighth is of SIDE -1", x.at(0, 0, 0), 5);
        Due.is("the other FIGURE is not full", x.string(1, 0, 1, 1), 0);
    }

    private static void promise4Strength() {
        PuppetBridge x = new PuppetBridge();
        x.figure(10, 0, 8);
        x.string(0, 0, 1, 1);
        x.string(0, 0, 1, 999);
        x.pull(0, 0, 1);
        Due.is("STRENGTH 1, WEAR 1", x.pulled(0, 0, 2), 0);
        x.pull(0, 0, 0);
        Due.is("STRENGTH 1, WEAR 2", x.pulled(0, 0, 2), 1);
        for (int i = 0; i < 111; i++) {
            x.pull(0, 1, i % 2 == 0 ? 9 : 0);
        }
        Due.is("STRENGTH 999: WEAR", x.pulled(0, 1, 1), 999);
        Due.is("STRENGTH 999, WEAR 999", x.pulled(0, 1, 2), 0);
        x.pull(0, 1, 8);
        Due.is("STRENGTH 999: WEAR", x.pulled(0, 1, 1), 1000);
        Due.is("STRENGTH 999, WEAR 1000", x.pulled(0, 1, 2), 1);
        x.pull(0, 1, 0);
        Due.is("WEAR of a BROKEN one", x.pulled(0, 1, 1), 1000);
    }

    private static void promise5() {
        range("place: FIGURE", 0, 0, v -> flag(leg(0).place(v, 0, 0)));
        range("place: x", -100000, 100000, v -> flag(leg(0).place(0, v, 0)));
        range("place: LIFT", 0, 9999, v -> flag(leg(0).place(0, 0, v)));
        PuppetBridge x = leg(1);
        int[][] lifts = {{0, 1000, 1000, 1}, {999, 1000, 1, 1}, {1000, 1000, 0, 1}, {1001, 1001, 0, -1}, {9999, 9999, 0, -1}};
        for (int[] l : lifts) {
            x.place(0, 77, l[0]);
            Due.is("LIFT " + l[0] + ": y", x.of(0, 3), l[1]);
            Due.is("LIFT " + l[0] + ": SLACK", x.of(0, 4), l[2]);
            Due.is("LIFT " + l[0] + ": STANDS", x.of(0, 5), l[3]);
            Due.is("LIFT " + l[0] + ": LIFT", x.of(0, 6), l[0]);
        }
        x.place(0, 0, 0);
        x.pull(0, 0, 2);
        Due.is("the foot holds", x.of(0, 2), 710);
        x.place(0, 0, 0);
        Due.is("by place() the HIP is at x BAR, the same too", x.of(0, 2), 0);
        Due.is("PULL stays", x.pulled(0, 0, 0), 2);
        Due.no("refused", x.place(0, 50, 10000));
        Due.no("refused", x.place(0, 100001, 50));
        x.again();
        Due.is("a refused place() leaves BAR", x.of(0, 2), 0);
        Due.is("a refused place() leaves LIFT", x.of(0, 6), 0);
    }

    private static void promise6Range() {
        range("pull: FIGURE", 0, 0, v -> flag(leg(1).pull(v, 0, 1)));
        range("pull: STRING", 0, 2, v -> flag(leg(3).pull(0, v, 1)));
        range("pull: v", 0, 9, v -> flag(leg(1).pull(0, 0, v)));
        Due.no("pull of no STRINGS", leg(0).pull(0, 0, 0));
        PuppetBridge x = leg(1);
        x.pull(0, 0, 9);
        x.pull(0, 0, 10);
        x.pull(0, 0, -1);
        Due.is("refused: PULL stays", x.pulled(0, 0, 0), 9);
        Due.is("refused: WISH stays", x.pulled(0, 0, 3), 9);
        Due.is("refused: WEAR stays", x.pulled(0, 0, 1), 9);
        x.set(0, 1);
        x.pull(0, 0, 0);
        Due.is("at once, whatever RATE is", x.pulled(0, 0, 0), 0);
        x.play(3);
        Due.is("WISH is 0 too", x.pulled(0, 0, 0), 0);
    }

    private static void promise6Most() {
        for (int most = 0; most <= 8; most++) {
            for (int side = -1; side <= 1; side += 2) {
                PuppetBridge x = new PuppetBridge();
                x.figure(1, 8, most);
                x.string(0, 0, side, 999);
                x.string(0, 0, side, 999);
                x.string(0, 0, -side, 999);
                for (int v = 0; v <= 9; v++) {
                    x.pull(0, 0, v);
                    Due.is("MOST " + most, x.at(0, 0, 0), (8 + side * Math.min(most, v) + 16) % 16);
                }
                x.pull(0, 1, 9);
                Due.is("18 is MOST at most", x.at(0, 0, 0), (8 + side * most + 16) % 16);
                x.pull(0, 2, 9);
                Due.is("18 less 9", x.at(0, 0, 0), (8 + side * most + 16) % 16);
                x.pull(0, 1, 0);
                Due.is("the sum is 0", x.at(0, 0, 0), 8);
                x.pull(0, 0, 0);
                Due.is("less MOST at least", x.at(0, 0, 0), (8 - side * most + 16) % 16);
            }
        }
    }

    private static void promise6Wear() {
        PuppetBridge x = new PuppetBridge();
        x.figure(10, 8, 8);
        x.string(0, 0, 1, 9);
        x.pull(0, 0, 9);
        Due.is("WEAR 9 of 9", x.pulled(0, 0, 2), 0);
        x.pull(0, 0, 9);
        Due.is("it went nowhere", x.pulled(0, 0, 1), 9);
        x.pull(0, 0, 8);
        Due.is("WEAR 10 of 9", x.pulled(0, 0, 2), 1);
        Due.is("from then on it pulls nothing", x.at(0, 0, 0), 8);
        Due.yes("a BROKEN one is pulled", x.pull(0, 0, 0));
        Due.is("its PULL", x.pulled(0, 0, 0), 0);
        Due.is("its WEAR stays", x.pulled(0, 0, 1), 10);
        Due.is("it stays BROKEN", x.pulled(0, 0, 2), 1);
    }

    private static void promise7() {
        range("mend: FIGURE", 0, 0, v -> flag(leg(1).mend(v, 0, true)));
        range("mend: STRING", 0, 2, v -> flag(leg(3).mend(0, v, false)));
        Due.no("mend of no STRINGS", leg(0).mend(0, 0, false));
        PuppetBridge x = leg(1);
        x.pull(0, 0, 5);
        Due.yes("breaks", x.mend(0, 0, true));
        Due.yes("breaks again", x.mend(0, 0, true));
        Due.is("WEAR stays", x.pulled(0, 0, 1), 5);
        x.pull(0, 0, 3);
        Due.is("WEAR of a BROKEN one stays", x.pulled(0, 0, 1), 5);
        Due.yes("mends", x.mend(0, 0, false));
        Due.is("WEAR 0 then", x.pulled(0, 0, 1), 0);
        Due.is("it pulls by its PULL of now", x.at(0, 0, 0), 11);
        x.pull(0, 0, 9);
        Due.is("WEAR from 0", x.pulled(0, 0, 1), 6);
        Due.yes("mends a whole one", x.mend(0, 0, false));
        Due.is("WEAR 0 then too", x.pulled(0, 0, 1), 0);
        Due.is("PULL stays", x.pulled(0, 0, 0), 9);
    }

    private static void promise7AllEight() {
        PuppetBridge x = leg(8);
        for (int s = 0; s < 8; s++) {
            x.pull(0, s, s % 2 == 0 ? 2 : 0);
            Due.is("of(0, 8)", x.of(0, 8), (1 << s) - 1);
            x.mend(0, s, true);
        }
        Due.is("all eight BROKEN", x.of(0, 8), 255);
        Due.is("at REST", x.at(0, 0, 0), 8);
        x.mend(0, 7, false);
        Due.is("the eighth is whole", x.of(0, 8), 127);
    }

    private static void promise8() {
        range("set: RATE", 1, 9, v -> new PuppetBridge().set(0, v));
        range("set: NEAR", 0, 2000, v -> new PuppetBridge().set(1, v));
        range("set: SLIPPERY", 0, 1, v -> new PuppetBridge().set(2, v));
        int[] others = {-1, 3, LEAST, GREATEST};
        for (int what : others) {
            Due.is("set(" + what + ", 1)", new PuppetBridge().set(what, 1), -1);
        }
        int[][] pairs = {{0, 1, 9, 10, 0}, {1, 0, 2000, 2001, -1}, {2, 0, 1, 2, -1}};
        for (int[] p : pairs) {
            PuppetBridge x = new PuppetBridge();
            x.set(p[0], p[1]);
            Due.is("the least", x.set(p[0], p[2]), p[1]);
            Due.is("too much", x.set(p[0], p[3]), -1);
            Due.is("too little", x.set(p[0], p[4]), -1);
            Due.is("refused ones change nothing", x.set(p[0], p[2]), p[2]);
            Due.is("the same", x.set(p[0], p[1]), p[2]);
        }
    }

    private static void promise9() {
        PuppetBridge x = leg(2);
        x.place(0, 5, 300);
        x.mend(0, 1, true);
        Due.score(x, 0, "(.)*9");
        int[] want = {1, 2, 5, 1000, 700, 1, 300, 9, 2};
        for (int what = 0; what < 9; what++) {
            Due.is("of(0, " + what + ")", x.of(0, what), want[what]);
        }
        int[][] wrong = {{0, -1}, {0, 9}, {0, LEAST}, {0, GREATEST}, {1, 0}, {-1, 0}, {4, 0}, {LEAST, 0}, {GREATEST, 8}};
        for (int[] w : wrong) {
            Due.none("of(" + w[0] + ", " + w[1] + ")", () -> x.of(w[0], w[1]));
        }
        x.figure(1, 0, 0);
        Due.is("a second FIGURE", x.of(1, 0), 1);
        Due.none("a third one", () -> x.of(2, 0));
    }

    private static void promise10() {
        PuppetBridge x = leg(0);
        x.limb(0, 0, 1, 2, 4, 0);
        int[][] want = {{8, 0, 0}, {4, 200, 0}};
        for (int k = 0; k < 2; k++) {
            for (int what = 0; what < 3; what++) {
                Due.is("at(0, " + k + ", " + what + ")", x.at(0, k, what), want[k][what]);
            }
        }
        int[][] wrong = {{0, 0, -1}, {0, 0, 3}, {0, 1, 3}, {0, 2, 0}, {0, -1, 0}, {0, 8, 0}, {-1, 0, 0}, {1, 0, 0}, {4, 0, 0},
            {0, LEAST, 0}, {0, GREATEST, 0}, {LEAST, 0, 0}, {GREATEST, 0, 0}, {0, 0, LEAST}, {0, 0, GREATEST}};
        for (int[] w : wrong) {
            Due.none("at(" + w[0] + ", " + w[1] + ", " + w[2] + ")", () -> x.at(w[0], w[1], w[2]));
        }
    }

    private static void promise11() {
        PuppetBridge x = leg(1);
        x.limb(0, 0, 1, 2, 4, 0);
        x.string(0, 1, -1, 3);
        Due.score(x, 0, "b9");
        x.set(0, 4);
        x.play(1);
        int[][] want = {{0, 0, 0, 0, 0}, {4, 4, 1, 9, 1}};
        for (int s = 0; s < 2; s++) {
            for (int what = 0; what < 5; what++) {
                Due.is("pulled(0, " + s + ", " + what + ")", x.pulled(0, s, what), want[s][what]);
            }
        }
        int[][] wrong = {{0, 1, -1}, {0, 1, 5}, {0, 2, 0}, {0, -1, 0}, {-1, 0, 0}, {1, 0, 0}, {4, 0, 0}, {0, 8, 0},
            {LEAST, 0, 0}, {GREATEST, 0, 0}, {0, LEAST, 0}, {0, GREATEST, 0}, {0, 1, LEAST}, {0, 1, GREATEST}};
        for (int[] w : wrong) {
            Due.is("pulled(" + w[0] + ", " + w[1] + ", " + w[2] + ")", x.pulled(w[0], w[1], w[2]), -1);
        }
    }

    private static void termFloor() {
        PuppetBridge x = new PuppetBridge();
        x.figure(10, 4, 0);
        Due.is("HIP and end at y 0: on the HIP", x.of(0, 5), 0);
        Due.is("no SLACK", x.of(0, 4), 0);
        x.limb(0, 0, 1, 1, 9, 0);
        Due.is("just so much", x.of(0, 3), 92);
        Due.is("the lowest is at y 0", x.at(0, 1, 2), 0);
        Due.is("on it", x.of(0, 5), 2);
        x.limb(0, 0, 0, 1, 7, 0);
        Due.is("two lowest: the least number", x.of(0, 5), 2);
        x.limb(0, 0, 0, 1, 8, 0);
        Due.is("lower by 8", x.of(0, 3), 100);
        Due.is("on the lowest", x.of(0, 5), 4);
        x.place(0, 0, 1);
        Due.is("SLACK is less by LIFT", x.of(0, 4), 99);
    }

    private static void termHolds() {
        PuppetBridge x = new PuppetBridge();
        x.figure(10, 4, 8);
        x.string(0, 0, -1, 999);
        x.string(0, 0, 1, 999);
        x.place(0, 40, 0);
        x.pull(0, 0, 4);
        Due.is("stood on the HIP, stands on it: it holds", x.of(0, 2), 40);
        x.pull(0, 0, 0);
        x.pull(0, 1, 1);
        Due.is("stood on the HIP, stands on the end", x.of(0, 5), 1);
        Due.is("x is as it was", x.of(0, 2), 40);
        x.pull(0, 1, 2);
        Due.is("stood on the end, stands on it", x.of(0, 2), 40 + 920 - 710);
        x.place(0, 0, 380);
        x.pull(0, 1, 1);
        Due.is("LIFT is its very height: it stands on the end", x.of(0, 5), 1);
        Due.is("and it holds", x.of(0, 2), 710 - 920);
        x.pull(0, 1, 0);
        Due.is("it stood, and stands on none", x.of(0, 5), -1);
        Due.is("x is as it was", x.of(0, 2), 710 - 920);
        x.pull(0, 1, 1);
        Due.is("it stood on none, and stands", x.of(0, 5), 1);
        Due.is("x is as it was", x.of(0, 2), 710 - 920);
        x.set(2, 1);
        x.pull(0, 1, 3);
        Due.is("SLIPPERY: x is as it was", x.of(0, 2), 710 - 920);
    }

    private static void termHoldsByLift() {
        PuppetBridge x = leg(1);
        Due.score(x, 0, "+5,a2;-5,a0;+9,+9;-9,-9,a2;a1");
        int[][] want = {{710, 710, 1, 500}, {0, 1000, 1, 0}, {0, 1800, -1, 1800}, {0, 710, 1, 0}, {-710 + 380, 920, 1, 0}};
        for (int b = 0; b < want.length; b++) {
            x.play(1);
            Due.is("behind BEAT " + b + ": x", x.of(0, 2), want[b][0]);
            Due.is("behind BEAT " + b + ": y", x.of(0, 3), want[b][1]);
            Due.is("behind BEAT " + b + ": STANDS", x.of(0, 5), want[b][2]);
            Due.is("behind BEAT " + b + ": LIFT", x.of(0, 6), want[b][3]);
        }
    }

    private static void termWrapsBy16() {
        int[][] rows = {{15, 1, 1, 0}, {15, 1, 8, 7}, {0, -1, 1, 15}, {0, -1, 8, 8}, {8, 1, 8, 0}, {8, 1, 7, 15}, {7, -1, 8, 15},
            {9, 1, 8, 1}};
        for (int[] r : rows) {
            PuppetBridge x = new PuppetBridge();
            x.figure(1, r[0], 8);
            x.string(0, 0, r[1], 999);
            x.pull(0, 0, r[2]);
            Due.is("REST " + r[0] + " and " + r[1] * r[2] + " by 16", x.at(0, 0, 0), r[3]);
        }
    }
}
