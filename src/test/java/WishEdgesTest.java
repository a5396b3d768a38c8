import java.util.function.IntToLongFunction;

/** The boundary cases of promises 32 to 35 and of the fifth term, sentence by sentence. */
public final class WishEdgesTest {
    private static final int LEAST = Integer.MIN_VALUE;
    private static final int GREATEST = Integer.MAX_VALUE;

    public static void main(String[] args) {
        promise32Range();
        promise32Bits();
        promise32Broken();
        promise32Row();
        promise32Equal();
        promise32TheHip();
        promise32Farthest();
        promise32Most();
        promise33();
        promise33Full();
        promise34NoneSuch();
        promise34NothingSeen();
        promise34NoneDoes();
        promise34Fewest();
        promise34Ahead();
        promise34Limbs();
        promise34Beats();
        promise34OtherFigures();
        promise35();
        Due.finish("WishEdgesTest");
    }

    /** An arm that points up from x 0, y 5000, with so many strings that turn it by SIDE 1. */
    private static PuppetBridge arm(int strings) {
        PuppetBridge x = new PuppetBridge();
        x.figure(10, 0, 8);
        x.place(0, 0, 5000);
        for (int s = 0; s < strings; s++) {
            x.string(0, 0, 1, 999);
        }
        return x;
    }

    /** A ROW of its own, so that one sees whether a call tells it anew. */
    private static PuppetBridge withRow(PuppetBridge x) {
        x.pass(1);
        x.pass(1);
        x.undo();
        return x;
    }

    private static void rangeThrows(String call, int low, int high, IntToLongFunction asks) {
        for (int v : new int[] {low - 1, high + 1, LEAST, GREATEST}) {
            Due.none(call + " " + v, () -> asks.applyAsLong(v));
        }
        for (int v : new int[] {low, high, (low + high) / 2}) {
            Due.yes(call + " " + v, asks.applyAsLong(v) >= 0);
        }
    }

    private static void promise32Range() {
        rangeThrows("reach: FIGURE", 0, 0, v -> arm(1).reach(v, 0, 1, 0, 0));
        rangeThrows("reach: LIMB", 0, 0, v -> arm(1).reach(0, v, 1, 0, 0));
        rangeThrows("reach: x", -1000000, 1000000, v -> arm(1).reach(0, 0, 1, v, 0));
        rangeThrows("reach: y", -1000000, 1000000, v -> arm(1).reach(0, 0, 1, 0, v));
        rangeThrows("reach: bits of one STRING", 1, 1, v -> arm(1).reach(0, 0, v, 0, 0));
        Due.none("reach: no STRINGS", () -> arm(0).reach(0, 0, 1, 0, 0));
        Due.none("reach: no STRINGS, none asked", () -> arm(0).reach(0, 0, 0, 0, 0));
        PuppetBridge x = withRow(arm(1));
        Due.none("reach of others", () -> x.reach(0, 0, 2, 0, 0));
        Due.row("the ROW stays", x, -1, -1);
    }

    private static void promise32Bits() {
        for (int strings = 0; strings <= 8; strings++) {
            PuppetBridge x = arm(strings);
            for (int bits = -2; bits < 520; bits++) {
                int asked = bits;
                String call = "reach by bits " + bits + " of " + strings;
                if (bits >= 1 && bits < 1 << strings && Integer.bitCount(bits) <= 3) {
                    Due.is(call, x.reach(0, 0, bits, 1000, 5000), 0);
                    Due.is(call + ": numbers of the ROW", x.count(6), Integer.bitCount(bits));
                } else {
                    Due.none(call, () -> x.reach(0, 0, asked, 1000, 5000));
                }
            }
        }
    }

    private static void promise32Broken() {
        PuppetBridge x = withRow(arm(3));
        x.mend(0, 1, true);
        for (int bits = 1; bits < 8; bits++) {
            int asked = bits;
            if ((bits & 2) != 0) {
                Due.none("a BROKEN one", () -> x.reach(0, 0, asked, 0, 0));
                Due.row("the ROW stays", x, -1, -1);
            }
        }
        Due.is("of the others", x.reach(0, 0, 5, 1000, 5000), 0);
        x.mend(0, 1, false);
        Due.is("mended", x.reach(0, 0, 2, 1000, 5000), 0);
    }

    private static void promise32Row() {
        PuppetBridge x = arm(8);
        int[][] rows = {{1, 4}, {128, 4}, {3, 0, 4}, {129, 0, 4}, {7, 0, 0, 4}, {224, 0, 0, 4}, {137, 0, 0, 4}};
        for (int[] r : rows) {
            Due.is("reach", x.reach(0, 0, r[0], 1000, 5000), 0);
            Due.row("reach by " + r[0], x, java.util.Arrays.copyOfRange(r, 1, r.length));
        }
        x.pull(0, 0, 9);
        Due.is("PULL 9 is asked too", x.reach(0, 0, 2, 0, 4000), 0);
        Due.row("all else as it is", x, 0);
        PuppetBridge y = new PuppetBridge();
        y.figure(10, 0, 8);
        y.string(0, 0, 1, 999);
        y.string(0, 0, -1, 999);
        y.place(0, 0, 5000);
        y.pull(0, 1, 5);
        Due.is("PULL 9 less 5", y.reach(0, 0, 1, 1000, 5000), 0);
        Due.row("PULL 9", y, 9);
    }

    private static void promise32Equal() {
        PuppetBridge x = new PuppetBridge();
        x.figure(10, 4, 2);
        x.limb(0, 0, 1, 5, 4, 0);
        x.string(0, 0, 1, 999);
        x.string(0, 0, 1, 999);
        x.string(0, 0, -1, 999);
        x.place(0, 0, 5000);
        Due.is("PULLS 2 .. 9 are alike by MOST", x.reach(0, 0, 1, 710, 4290), 0);
        Due.row("the least sum", x, 2);
        Due.is("by two STRINGS", x.reach(0, 0, 3, 710, 4290), 0);
        Due.row("of equal sums the first row", x, 0, 2);
        Due.is("by three STRINGS", x.reach(0, 0, 7, 920, 5380), 0);
        Due.row("the least sum", x, 0, 0, 1);
        Due.is("up and down alike", x.reach(0, 0, 5, -1000, 5000), 1710L * 1710L + 710L * 710L);
        Due.row("of equal sums the first row", x, 0, 2);
        PuppetBridge z = new PuppetBridge();
        z.figure(10, 0, 8);
        z.string(0, 0, 1, 999);
        z.string(0, 0, -1, 999);
        z.string(0, 0, 1, 999);
        z.place(0, 0, 5000);
        z.pull(0, 2, 1);
        z.pull(0, 1, 3);
        Due.is("0, 9 and 7, 0 turn it down", z.reach(0, 0, 3, 0, 4000), 0);
        Due.row("the least sum ahead of the first row", z, 7, 0);
        PuppetBridge y = new PuppetBridge();
        y.figure(10, 4, 0);
        y.string(0, 0, 1, 999);
        y.string(0, 0, 1, 999);
        y.string(0, 0, 1, 999);
        Due.is("MOST 0: no PULL does anything", y.reach(0, 0, 7, 0, 0), 1000L * 1000L);
        Due.row("all alike", y, 0, 0, 0);
    }

    private static void promise32TheHip() {
        PuppetBridge x = new PuppetBridge();
        x.figure(10, 8, 8);
        x.string(0, 0, 1, 999);
        Due.is("the FLOOR is not asked", x.reach(0, 0, 1, -1000, 1000), 0);
        Due.row("the HIP where it is", x, 4);
        x.pull(0, 0, 2);
        Due.is("HIP", x.of(0, 2), 710);
        Due.is("from the HIP of now", x.reach(0, 0, 1, 710, -290), 0);
        Due.row("below the FLOOR too", x, 0);
        Due.is("nothing is pulled", x.pulled(0, 0, 0), 2);
        Due.is("HIP stays", x.of(0, 2), 710);
        Due.is("WEAR stays", x.pulled(0, 0, 1), 2);
    }

    private static void promise32Farthest() {
        PuppetBridge x = arm(1);
        x.place(0, -100000, 0);
        long dx = 1000000 + 100000 - 1000;
        Due.is("far beyond an int", x.reach(0, 0, 1, 1000000, 0), dx * dx);
        Due.row("far beyond an int", x, 4);
        x.place(0, 100000, 9999);
        long ax = -1000000 - 100000;
        long ay = 1000000 - 9999 - 1000;
        Due.is("up and west", x.reach(0, 0, 1, -1000000, 1000000), ax * ax + ay * ay);
        Due.row("up and west", x, 0);
    }

    private static void promise32Most() {
        for (int most = 0; most <= 8; most++) {
            PuppetBridge x = new PuppetBridge();
            x.figure(10, 0, most);
            x.string(0, 0, 1, 999);
            x.place(0, 0, 5000);
            x.reach(0, 0, 1, 0, 0);
            Due.row("straight down as far as MOST " + most, x, most);
        }
    }

    private static void promise33() {
        int[][] wrong = {{-1, 0, 0, 0}, {1, 0, 0, 0}, {4, 0, 0, 0}, {0, -1, 0, 0}, {0, 80, 0, 0}, {0, 0, -1, 0}, {0, 0, 1, 0},
            {0, 0, 0, -1}, {0, 0, 0, 16}, {LEAST, 0, 0, 0}, {GREATEST, 0, 0, 0}, {0, LEAST, 0, 0}, {0, GREATEST, 0, 0},
            {0, 0, LEAST, 0}, {0, 0, GREATEST, 0}, {0, 0, 0, LEAST}, {0, 0, 0, GREATEST}};
        PuppetBridge x = arm(1);
        for (int[] w : wrong) {
            Due.is("seen of others", x.seen(w[0], w[1], w[2], w[3]), -1);
            Due.is("refused: TELL-TALES", x.count(5), 0);
        }
        Due.is("BEAT 0, HEADING 0", x.seen(0, 0, 0, 0), 1);
        Due.is("BEAT 79, HEADING 15", x.seen(0, 79, 0, 15), 2);
        Due.is("the same again is one more", x.seen(0, 79, 0, 15), 3);
        x.limb(0, 0, 1, 1, 0, 0);
        Due.is("LIMB 1, that there is now", x.seen(0, 0, 1, 0), 4);
        Due.is("LIMB 2", x.seen(0, 0, 2, 0), -1);
    }

    private static void promise33Full() {
        PuppetBridge x = arm(1);
        x.figure(1, 0, 0);
        for (int k = 1; k <= 20; k++) {
            Due.is("seen " + k, x.seen(k % 2, k, 0, 0), k);
        }
        Due.is("a 21st", x.seen(0, 0, 0, 5), -1);
        Due.is("a 21st of another FIGURE", x.seen(1, 0, 0, 0), -1);
        Due.is("TELL-TALES", x.count(5), 20);
        Due.is("the 21st is not SEEN", x.broken(0), 1);
        x.clear();
        Due.is("the first again", x.seen(0, 0, 0, 0), 1);
    }

    private static void promise34NoneSuch() {
        for (int figure : new int[] {-1, 1, 4, LEAST, GREATEST}) {
            PuppetBridge x = withRow(arm(1));
            Due.is("broken(" + figure + ")", x.broken(figure), -1);
            Due.row("the ROW stays", x, -1, -1);
        }
        Due.is("no FIGURES", new PuppetBridge().broken(0), -1);
    }

    private static void promise34NothingSeen() {
        for (int strings = 0; strings <= 8; strings++) {
            PuppetBridge x = withRow(arm(strings));
            Due.is("nothing SEEN: the empty set alone", x.broken(0), 1);
            Due.row("the empty set", x, 0);
        }
    }

    private static void promise34NoneDoes() {
        PuppetBridge x = withRow(arm(0));
        x.seen(0, 0, 0, 1);
        Due.is("no STRINGS to be BROKEN", x.broken(0), 0);
        Due.row("the ROW stays", x, -1, -1);
        PuppetBridge y = withRow(arm(2));
        Due.score(y, 0, "a1,b2");
        y.seen(0, 0, 0, 1);
        Due.is("b", y.broken(0), 1);
        Due.row("b", y, 2);
        y.seen(0, 0, 0, 2);
        Due.is("both can't be SEEN behind one BEAT", y.broken(0), 0);
        Due.row("the ROW stays", y, 2);
    }

    private static void promise34Fewest() {
        int[] choose = {1, 8, 28, 56, 70, 56, 28, 8, 1};
        for (int gone = 0; gone <= 8; gone++) {
            PuppetBridge x = arm(8);
            Due.score(x, 0, "a1,b1,c1,d1,e1,f1,g1,h1");
            x.seen(0, 0, 0, 8 - gone);
            Due.is(gone + " of eight", x.broken(0), choose[gone]);
            Due.row("the first of them by bits", x, (1 << gone) - 1);
        }
        PuppetBridge x = arm(4);
        Due.score(x, 0, "a1,b1,c2,d5");
        x.seen(0, 0, 0, 7);
        Due.is("c, and not a and b", x.broken(0), 1);
        Due.row("c, and not a and b", x, 4);
        x.clear();
        x.seen(0, 0, 0, 8);
        Due.is("MOST hides what is BROKEN", x.broken(0), 1);
        Due.row("MOST hides what is BROKEN", x, 0);
        x.clear();
        x.seen(0, 0, 0, 4);
        Due.is("d alone", x.broken(0), 1);
        Due.row("d alone", x, 8);
    }

    /** What is now does not count: neither PULLS, WISHES, WEAR nor what is BROKEN. */
    private static void promise34Ahead() {
        PuppetBridge x = new PuppetBridge();
        x.figure(10, 0, 8);
        x.string(0, 0, 1, 1);
        x.string(0, 0, 1, 1);
        Due.score(x, 0, "a5,b2;a0;a5");
        x.seen(0, 2, 0, 7);
        Due.is("STRENGTH is not asked", x.broken(0), 1);
        Due.row("none is BROKEN", x, 0);
        x.mend(0, 0, true);
        x.pull(0, 1, 9);
        x.play(2);
        Due.is("what is BROKEN now is not asked", x.broken(0), 1);
        Due.row("none is BROKEN", x, 0);
        x.seen(0, 1, 0, 0);
        Due.is("none does", x.broken(0), 0);
        Due.is("nothing changes: BROKEN", x.of(0, 8), 3);
        Due.is("nothing changes: PULL", x.pulled(0, 1, 0), 2);
        Due.is("nothing changes: BEAT", x.count(1), 2);
        PuppetBridge y = arm(2);
        Due.score(y, 0, "a5");
        y.set(0, 1);
        y.pull(0, 0, 9);
        y.pull(0, 1, 3);
        y.seen(0, 0, 0, 1);
        y.seen(0, 79, 0, 5);
        Due.is("PULLS and WISHES are 0 ahead", y.broken(0), 1);
        Due.row("PULLS and WISHES are 0 ahead", y, 0);
    }

    private static void promise34Limbs() {
        PuppetBridge x = new PuppetBridge();
        x.figure(10, 0, 8);
        x.limb(0, 0, 1, 10, 4, 8);
        x.limb(0, 1, 1, 10, 8, 8);
        for (int s = 0; s < 6; s++) {
            x.string(0, s % 3, 1, 999);
        }
        Due.score(x, 0, "a1,b1,c1,d1,e1,f1");
        x.seen(0, 0, 1, 5);
        Due.is("one STRING of LIMB 1", x.broken(0), 2);
        Due.row("one STRING of LIMB 1", x, 2);
        x.seen(0, 0, 2, 8);
        Due.is("and both of LIMB 2", x.broken(0), 2);
        Due.row("and both of LIMB 2", x, 2 + 4 + 32);
        x.seen(0, 0, 0, 2);
        Due.is("and none of LIMB 0", x.broken(0), 2);
    }

    private static void promise34Beats() {
        PuppetBridge x = arm(2);
        Due.score(x, 0, "((.)*9;.)*7;(.)*9;a3,b1");
        x.seen(0, 78, 0, 0);
        Due.is("behind BEAT 78", x.broken(0), 1);
        Due.row("behind BEAT 78", x, 0);
        x.seen(0, 79, 0, 3);
        Due.is("behind BEAT 79", x.broken(0), 1);
        Due.row("behind BEAT 79", x, 2);
        PuppetBridge y = arm(1);
        Due.score(y, 0, "a9");
        y.set(0, 2);
        int[] headings = {2, 4, 6, 8, 8};
        for (int b = 0; b < 5; b++) {
            y.seen(0, b, 0, headings[b]);
            Due.is("by RATE 2, behind BEAT " + b, y.broken(0), 1);
            Due.row("by RATE 2", y, 0);
        }
        y.seen(0, 79, 0, 0);
        Due.is("it does not fall back", y.broken(0), 0);
    }

    private static void promise34OtherFigures() {
        PuppetBridge x = arm(1);
        x.figure(10, 0, 8);
        x.string(1, 0, 1, 999);
        Due.score(x, 0, "a2");
        Due.score(x, 1, "a3");
        x.seen(1, 0, 0, 0);
        Due.is("of the other one nothing is SEEN", x.broken(0), 1);
        Due.row("none is BROKEN", x, 0);
        Due.is("its STRING", x.broken(1), 1);
        Due.row("its STRING", x, 1);
        x.seen(0, 0, 0, 9);
        Due.is("none does", x.broken(0), 0);
        Due.is("the other one as ahead", x.broken(1), 1);
    }

    private static void promise35() {
        PuppetBridge x = new PuppetBridge();
        for (int i : new int[] {0, -1, 31, 32, LEAST, GREATEST}) {
            Due.none("no ROW: row(" + i + ")", () -> x.row(i));
        }
        for (int k = 0; k < 8; k++) {
            x.scene(15);
        }
        x.cast(2);
        Due.is("row(0)", x.row(0), 0);
        Due.is("row(31)", x.row(31), 1);
        for (int i : new int[] {-1, 32, 33, LEAST, GREATEST}) {
            Due.none("row(" + i + ")", () -> x.row(i));
        }
        x.pass(1);
        x.undo();
        Due.row("a shorter ROW instead", x, -1);
        x.pass(-1);
        x.undo();
        Due.row("an empty ROW instead", x);
    }
}
