import java.util.Random;

/** The boundary cases of promises 21 to 31 and of the third and fourth terms, sentence by sentence. */
public final class BridgeEdgesTest {
    private static final int LEAST = Integer.MIN_VALUE;
    private static final int GREATEST = Integer.MAX_VALUE;

    public static void main(String[] args) {
        promise21();
        promise22Range();
        promise22Full();
        promise23();
        promise24();
        promise25();
        promise26();
        promise27();
        promise28None();
        promise28MoreThanSix();
        promise28FirstRow();
        promise28NothingChanges();
        promise29();
        promise30();
        promise31Range();
        promise31NoScenes();
        promise31Hands();
        promise31Full();
        promise31GoesOn();
        Due.finish("BridgeEdgesTest");
    }

    private static PuppetBridge bridge(int n, int... passes) {
        PuppetBridge x = new PuppetBridge();
        x.bars(n);
        for (int p : passes) {
            x.pass(p);
        }
        return x;
    }

    /** A bridge whose ROW is 0, -1, -1, -1, so that one sees whether a call tells it anew. */
    private static PuppetBridge withRow(PuppetBridge x) {
        x.clear();
        x.scene(1);
        x.cast(1);
        x.clear();
        return x;
    }

    private static void promise21() {
        for (int n : new int[] {1, 6, 0, -1, -2, LEAST, GREATEST}) {
            PuppetBridge x = bridge(3, 1, 2);
            Due.no("bars(" + n + ")", x.bars(n));
            Due.is("refused: BARS", x.count(2), 3);
            Due.is("refused: PASSES", x.count(3), 2);
            Due.is("refused: bar(2)", x.bar(2), 0);
            Due.is("refused: wound(0, 1)", x.wound(0, 1), 1);
            Due.is("refused: free", x.free(), 0);
        }
        for (int n = 2; n <= 5; n++) {
            PuppetBridge x = bridge(5, 1, 2, 3, 4, 4);
            Due.yes("bars(" + n + ")", x.bars(n));
            Due.is("BARS", x.count(2), n);
            Due.is("no PASSES", x.count(3), 0);
            Due.no("none to take back", x.back());
            Due.is("FREE", x.free(), 1);
            for (int k = 0; k < n; k++) {
                Due.is("BAR k at SPOT k", x.bar(k), k);
                Due.is("wound", x.wound(0, k), k == 0 ? -1000 : 0);
            }
            Due.is("the last PASS", x.pass(n - 1), 1);
            Due.is("one too far", x.pass(n), -1);
            Due.yes("the same n again", x.bars(n));
            Due.is("no PASSES", x.count(3), 0);
        }
    }

    private static void promise22Range() {
        for (int n = 2; n <= 5; n++) {
            for (int i = -n - 1; i <= n + 1; i++) {
                boolean taken = i != 0 && Math.abs(i) < n;
                PuppetBridge x = bridge(n);
                Due.is("pass(" + i + ") of " + n, x.pass(i), taken ? 1 : -1);
                Due.is("PASSES", x.count(3), taken ? 1 : 0);
                for (int k = 0; k < n; k++) {
                    int want = taken && k == Math.abs(i) ? k - 1 : taken && k == Math.abs(i) - 1 ? k + 1 : k;
                    Due.is("bar(" + k + ")", x.bar(k), want);
                }
            }
            Due.is("pass(least)", bridge(n).pass(LEAST), -1);
            Due.is("pass(least + 1)", bridge(n).pass(LEAST + 1), -1);
            Due.is("pass(greatest)", bridge(n).pass(GREATEST), -1);
        }
    }

    private static void promise22Full() {
        PuppetBridge x = bridge(2);
        for (int k = 1; k <= 40; k++) {
            Due.is("pass " + k, x.pass(1), k);
        }
        Due.is("a 41st", x.pass(1), -1);
        Due.is("a 41st, the contrary", x.pass(-1), -1);
        Due.is("PASSES", x.count(3), 40);
        Due.is("wound 40 times", x.wound(0, 1), 40);
        Due.is("bar(0)", x.bar(0), 0);
        Due.is("alike(40)", x.alike(40), 1);
        Due.is("alike(38)", x.alike(38), 0);
        Due.is("undo", x.undo(), -1);
        Due.yes("back", x.back());
        Due.is("there is one to come", x.pass(-1), 40);
        Due.is("wound", x.wound(0, 1), 38);
    }

    private static void promise23() {
        PuppetBridge x = bridge(3);
        Due.no("none", x.back());
        x.pass(-2);
        x.pass(1);
        Due.yes("back", x.back());
        Due.is("PASSES", x.count(3), 1);
        Due.is("bar(0)", x.bar(0), 0);
        Due.is("bar(1)", x.bar(1), 2);
        Due.is("as if it had not been: wound(0, 2)", x.wound(0, 2), 0);
        Due.is("the one ahead stays: wound(1, 2)", x.wound(1, 2), -1);
        Due.is("alike(1)", x.alike(1), 1);
        Due.is("alike(2)", x.alike(2), -1);
        Due.yes("back", x.back());
        Due.is("FREE", x.free(), 1);
        Due.no("none more", x.back());
        Due.no("none more", x.back());
        Due.is("PASSES", x.count(3), 0);
        int[] passes = {1, -2, 2, 2, -1, -1, 2, 1};
        for (int p : passes) {
            x.pass(p);
        }
        for (int k = passes.length - 1; k >= 0; k--) {
            PuppetBridge y = bridge(3, java.util.Arrays.copyOf(passes, k));
            Due.yes("back", x.back());
            for (int spot = 0; spot < 3; spot++) {
                Due.is("as without it: bar", x.bar(spot), y.bar(spot));
                Due.is("as without it: wound", x.wound(spot, (spot + 1) % 3), y.wound(spot, (spot + 1) % 3));
            }
            Due.is("as without it: free", x.free(), y.free());
            Due.is("as without it: undo", x.undo(), y.undo());
        }
    }

    private static void promise24() {
        for (int n = 2; n <= 5; n++) {
            PuppetBridge x = bridge(n);
            for (int k = 1; k < n; k++) {
                x.pass(k % 2 == 0 ? k : -k);
            }
            for (int spot = 0; spot < n; spot++) {
                Due.is("bar(" + spot + ")", x.bar(spot), spot == n - 1 ? 0 : spot + 1);
            }
            for (int spot : new int[] {-1, n, 5, LEAST, GREATEST}) {
                Due.is("bar(" + spot + ") of " + n, x.bar(spot), -1);
            }
        }
    }

    private static void promise25() {
        PuppetBridge x = bridge(5, 1, 2, 3, 4, -4, -4, -4);
        // 0 goes to the end before all others, then BAR 4 and it pass three times behind
        Due.is("wound(0, 1)", x.wound(0, 1), 1);
        Due.is("wound(0, 4)", x.wound(0, 4), -2);
        Due.is("wound(4, 0)", x.wound(4, 0), -2);
        Due.is("wound(1, 4)", x.wound(1, 4), 0);
        int[][] wrong = {{0, 0}, {4, 4}, {0, 5}, {5, 0}, {-1, 0}, {0, -1}, {LEAST, 0}, {0, GREATEST}, {5, 5}, {-1, -1}};
        for (int[] w : wrong) {
            Due.is("wound(" + w[0] + ", " + w[1] + ")", x.wound(w[0], w[1]), -1000);
        }
        for (int n = 2; n <= 5; n++) {
            for (int seed = 0; seed < 40; seed++) {
                everyPair(n, new Random(seed));
            }
        }
        PuppetBridge y = bridge(2);
        for (int k = 0; k < 40; k++) {
            y.pass(-1);
        }
        Due.is("40 times behind", y.wound(0, 1), -40);
        Due.is("a third BAR is none", y.wound(1, 2), -1000);
    }

    /** Each two BARS have a number of their own, and bars() begins all of them anew. */
    private static void everyPair(int n, Random random) {
        PuppetBridge x = bridge(n);
        int[] spots = {0, 1, 2, 3, 4};
        int[][] want = new int[5][5];
        for (int k = 0; k < 40; k++) {
            int i = 1 + random.nextInt(n - 1);
            int way = random.nextInt(3) == 0 ? -1 : 1;
            x.pass(way * i);
            int a = spots[i - 1];
            int b = spots[i];
            spots[i - 1] = b;
            spots[i] = a;
            want[a][b] += way;
            want[b][a] += way;
        }
        for (int a = 0; a < n; a++) {
            Due.is("bar(" + a + ")", x.bar(a), spots[a]);
            for (int b = 0; b < n; b++) {
                Due.is("wound(" + a + ", " + b + ")", x.wound(a, b), a == b ? -1000 : want[a][b]);
            }
        }
        x.bars(n);
        for (int a = 0; a < n; a++) {
            for (int b = 0; b < n; b++) {
                Due.is("behind bars(): wound(" + a + ", " + b + ")", x.wound(a, b), a == b ? -1000 : 0);
            }
        }
    }

    private static void promise26() {
        for (int n = 2; n <= 5; n++) {
            Due.is("no PASSES", bridge(n).free(), 1);
            for (int i = 1; i < n; i++) {
                Due.is("one", bridge(n, i).free(), 0);
                Due.is("one and its contrary", bridge(n, i, -i).free(), 1);
                Due.is("its contrary and one", bridge(n, -i, i).free(), 1);
                Due.is("twice the same", bridge(n, -i, -i).free(), 0);
                for (int j = 1; j < n; j++) {
                    boolean near = Math.abs(i - j) == 1;
                    Due.is("i, j, -i, -j", bridge(n, i, j, -i, -j).free(), near ? 0 : 1);
                    Due.is("i, -j, -i, j", bridge(n, i, -j, -i, j).free(), near ? 0 : 1);
                    Due.is("i, j, i and j, i, j, BEFORE", bridge(n, i, j, i, -j, -i, -j).free(), near || i == j ? 1 : 0);
                    Due.is("i, j, i and j, i, j, BEHIND", bridge(n, -i, -j, -i, j, i, j).free(), near || i == j ? 1 : 0);
                    Due.is("i, -j, i and -j, i, -j", bridge(n, i, -j, i, j, -i, j).free(), 0);
                }
            }
        }
        PuppetBridge x = bridge(5);
        for (int k = 0; k < 20; k++) {
            x.pass(1 + k % 4);
        }
        for (int k = 19; k >= 0; k--) {
            Due.is("not yet", x.free(), 0);
            x.pass(-1 - k % 4);
        }
        Due.is("40 PASSES, FREE", x.free(), 1);
    }

    private static void promise27() {
        PuppetBridge none = bridge(3);
        Due.is("no PASSES: alike(0)", none.alike(0), 1);
        Due.is("no PASSES: alike(1)", none.alike(1), -1);
        Due.is("no PASSES: alike(-1)", none.alike(-1), -1);
        PuppetBridge x = bridge(3, 1, 2, -2, 1, -1, 2);
        int[] want = {0, 0, 1, 0, 0, 0, 1};
        for (int i = 0; i <= 6; i++) {
            Due.is("alike(" + i + ")", x.alike(i), want[i]);
        }
        for (int i : new int[] {-1, 7, 40, LEAST, GREATEST}) {
            Due.is("alike(" + i + ")", x.alike(i), -1);
        }
        PuppetBridge y = bridge(4, 3, 1, 2, 1, -2, -1, -2);
        int[] alike = {0, 1, 0, 0, 0, 0, 0, 1};
        for (int i = 0; i <= 7; i++) {
            Due.is("alike(" + i + ") to 3", y.alike(i), alike[i]);
        }
    }

    private static void promise28None() {
        PuppetBridge x = withRow(bridge(3));
        Due.row("a ROW ahead", x, 0, -1, -1, -1);
        Due.is("no PASSES", x.undo(), 0);
        Due.row("the ROW of none", x);
        PuppetBridge y = withRow(bridge(3, 1, 2, 1, -2, -1, -2));
        Due.is("FREE", y.undo(), 0);
        Due.row("the ROW of none", y);
    }

    private static void promise28MoreThanSix() {
        for (int n = 2; n <= 5; n++) {
            for (int i = 1; i < n; i++) {
                PuppetBridge x = withRow(bridge(n, i, i, i, i, i, i));
                Due.is("six", x.undo(), 6);
                Due.row("six", x, -i, -i, -i, -i, -i, -i);
                withRow(x);
                x.pass(i);
                Due.is("seven", x.undo(), -1);
                Due.row("seven: the ROW stays", x, 0, -1, -1, -1);
                x.pass(-i);
                Due.is("six", x.undo(), 6);
            }
        }
        PuppetBridge plait = withRow(bridge(3, 1, -2, 1, -2, 1, -2));
        Due.is("a plait of six with nothing wound", plait.undo(), 6);
        Due.row("it goes back as it came", plait, 2, -1, 2, -1, 2, -1);
        PuppetBridge longer = withRow(bridge(3, 1, -2, 1, -2, 1, -2, 1, -2));
        Due.is("a plait of eight", longer.undo(), -1);
        Due.row("a plait of eight", longer, 0, -1, -1, -1);
    }

    private static void promise28FirstRow() {
        int[][][] rows = {
            {{4}, {1, 3}, {-1, -3}}, {{4}, {3, 1}, {-1, -3}}, {{4}, {-3, 1}, {-1, 3}}, {{4}, {3, -1}, {1, -3}},
            {{4}, {-1, -3}, {1, 3}}, {{3}, {1, 2, 1}, {-1, -2, -1}}, {{3}, {-2, -1, -2}, {1, 2, 1}},
            {{5}, {4, 2}, {-2, -4}}, {{5}, {4, 1}, {-1, -4}}, {{5}, {1, -4, -4}, {-1, 4, 4}},
            {{5}, {-4, 1, 4}, {-1}}, {{2}, {-1, -1}, {1, 1}}, {{4}, {2, 3, 2}, {-2, -3, -2}}, {{3}, {-1, 2, 1}, {-1, -2, 1}},
            {{3}, {2, 1, -2}, {-1, -2, 1}}};
        for (int[][] r : rows) {
            PuppetBridge x = withRow(bridge(r[0][0], r[1]));
            String call = "undo of " + java.util.Arrays.toString(r[1]);
            Due.is(call, x.undo(), r[2].length);
            Due.row(call, x, r[2]);
            for (int p : r[2]) {
                x.pass(p);
            }
            Due.is(call + ": FREE behind them", x.free(), 1);
        }
    }

    private static void promise28NothingChanges() {
        PuppetBridge x = bridge(4, 1, -2, 3, 3, 2);
        for (int k = 0; k < 3; k++) {
            Due.is("undo", x.undo(), 5);
            Due.is("PASSES", x.count(3), 5);
            int[] bars = {1, 0, 2, 3};
            for (int spot = 0; spot < 4; spot++) {
                Due.is("bar(" + spot + ")", x.bar(spot), bars[spot]);
            }
            Due.is("free", x.free(), 0);
            Due.is("wound(0, 2)", x.wound(0, 2), 0);
            Due.is("alike(4)", x.alike(4), 0);
        }
        PuppetBridge full = bridge(5);
        for (int k = 0; k < 40; k++) {
            full.pass(k < 20 ? 1 + k % 4 : -1 - (39 - k) % 4);
        }
        full.back();
        full.pass(1);
        Due.is("40 PASSES: none is put behind them", full.undo(), 2);
        Due.row("40 PASSES", full, -1, -1);
        Due.is("PASSES", full.count(3), 40);
    }

    private static void promise29() {
        for (int bits : new int[] {-1, 16, 17, 31, 256, LEAST, GREATEST}) {
            PuppetBridge x = new PuppetBridge();
            Due.is("scene(" + bits + ")", x.scene(bits), -1);
            Due.is("refused: SCENES", x.count(4), 0);
        }
        for (int bits = 0; bits < 16; bits++) {
            Due.is("scene(" + bits + ")", new PuppetBridge().scene(bits), 0);
        }
        PuppetBridge x = new PuppetBridge();
        for (int k = 0; k < 8; k++) {
            Due.is("scene " + k, x.scene(k), k);
        }
        Due.is("a ninth", x.scene(0), -1);
        Due.is("SCENES", x.count(4), 8);
        x.clear();
        Due.is("the first again", x.scene(15), 0);
    }

    private static void promise30() {
        PuppetBridge x = withRow(new PuppetBridge());
        Due.is("none", x.clear(), 0);
        x.figure(1, 3, 0);
        x.seen(0, 0, 0, 4);
        Due.is("TELL-TALES alone", x.clear(), 0);
        Due.is("no TELL-TALES", x.count(5), 0);
        Due.is("nothing is SEEN", x.broken(0), 1);
        withRow(x);
        for (int k = 0; k < 8; k++) {
            x.scene(15);
        }
        for (int k = 0; k < 20; k++) {
            x.seen(0, 0, 0, 0);
        }
        Due.is("eight", x.clear(), 8);
        Due.is("no SCENES", x.count(4), 0);
        Due.is("no TELL-TALES", x.count(5), 0);
        Due.row("the ROW stays", x, 0, -1, -1, -1);
        Due.is("seen", x.seen(0, 0, 0, 0), 1);
        Due.is("scene", x.scene(0), 0);
        Due.is("FIGURES stay", x.count(0), 1);
    }

    private static void promise31Range() {
        for (int p : new int[] {0, 4, -1, LEAST, GREATEST}) {
            PuppetBridge x = withRow(new PuppetBridge());
            Due.is("cast(" + p + ") of none", x.cast(p), -1);
            x.scene(0);
            Due.is("cast(" + p + ")", x.cast(p), -1);
            Due.row("the ROW stays", x, 0, -1, -1, -1);
        }
        for (int p = 1; p <= 3; p++) {
            PuppetBridge x = withRow(new PuppetBridge());
            x.scene(8);
            Due.is("cast(" + p + ")", x.cast(p), 0);
            Due.row("cast(" + p + ")", x, -1, -1, -1, 0);
        }
    }

    private static void promise31NoScenes() {
        for (int p = 1; p <= 3; p++) {
            PuppetBridge x = withRow(new PuppetBridge());
            Due.is("no SCENES", x.cast(p), 0);
            Due.row("no SCENES", x);
        }
    }

    /** A PLAYER has two HANDS: how many BARS a SCENE may need. */
    private static void promise31Hands() {
        for (int bits = 0; bits < 16; bits++) {
            for (int p = 1; p <= 3; p++) {
                boolean enough = Integer.bitCount(bits) <= 2 * p;
                PuppetBridge x = withRow(new PuppetBridge());
                x.scene(0);
                x.scene(bits);
                Due.is("cast(" + p + ") of " + bits, x.cast(p), enough ? 0 : -1);
                if (!enough) {
                    Due.row("the ROW stays", x, 0, -1, -1, -1);
                    continue;
                }
                int[] want = {-1, -1, -1, -1, -1, -1, -1, -1};
                int held = 0;
                for (int bar = 0; bar < 4; bar++) {
                    if ((bits >> bar & 1) == 1) {
                        want[4 + bar] = held / 2;
                        held++;
                    }
                }
                Due.row("the less PLAYER first", x, want);
            }
        }
    }

    private static void promise31Full() {
        PuppetBridge x = new PuppetBridge();
        int[] want = new int[32];
        for (int k = 0; k < 8; k++) {
            x.scene(k == 5 ? 3 : 15);
            for (int bar = 0; bar < 4; bar++) {
                want[4 * k + bar] = bar < 2 ? 0 : k == 5 ? -1 : 1;
            }
        }
        Due.is("eight SCENES", x.cast(3), 0);
        Due.row("eight SCENES", x, want);
        Due.is("eight SCENES, four of its HANDS too few", x.cast(1), -1);
        Due.row("the ROW stays", x, want);
    }

    private static void promise31GoesOn() {
        PuppetBridge x = new PuppetBridge();
        x.scene(7);
        x.scene(4);
        x.scene(12);
        x.scene(0);
        x.scene(4);
        Due.is("cast(2)", x.cast(2), 0);
        Due.row("BAR 2 goes on with 1, and behind a SCENE without it begins anew", x,
            0, 0, 1, -1, -1, -1, 1, -1, -1, -1, 1, 0, -1, -1, -1, -1, -1, -1, 0, -1);
    }
}
