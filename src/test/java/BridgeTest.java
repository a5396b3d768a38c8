import java.util.ArrayList;
import java.util.HashMap;
import java.util.List;
import java.util.Map;
import java.util.Random;

/** Promises 21 to 28: bars, passes, winding, what is alike, undoing; against Artin's action on a free group. */
public final class BridgeTest {
    private static final Random RANDOM = new Random(7);

    public static void main(String[] args) {
        bars();
        passes();
        winding();
        relations();
        fullTwist();
        for (int n = 2; n <= 5; n++) {
            randomRows(n);
            undoing(n);
        }
        undoRefused();
        hardest();
        Due.finish("BridgeTest");
    }

    private static void bars() {
        PuppetBridge x = new PuppetBridge();
        int[] wrong = {-1, 0, 1, 6, 100};
        for (int n : wrong) {
            Due.no("bars(" + n + ")", x.bars(n));
        }
        Due.is("count(2)", x.count(2), 2);
        for (int n = 2; n <= 5; n++) {
            x.pass(1);
            Due.yes("bars(" + n + ")", x.bars(n));
            Due.is("count(2)", x.count(2), n);
            Due.is("count(3)", x.count(3), 0);
            for (int k = 0; k < n; k++) {
                Due.is("bar(" + k + ")", x.bar(k), k);
            }
            Due.is("bar(n)", x.bar(n), -1);
            Due.is("bar(-1)", x.bar(-1), -1);
            Due.is("wound", x.wound(0, 1), 0);
        }
    }

    private static void passes() {
        PuppetBridge x = new PuppetBridge();
        x.bars(4);
        int[] wrong = {0, 4, -4, Integer.MIN_VALUE, Integer.MAX_VALUE};
        for (int i : wrong) {
            Due.is("pass(" + i + ")", x.pass(i), -1);
        }
        Due.no("back of none", x.back());
        Due.is("pass(1)", x.pass(1), 1);
        Due.is("pass(-3)", x.pass(-3), 2);
        Due.is("pass(2)", x.pass(2), 3);
        int[] want = {1, 3, 0, 2};
        for (int k = 0; k < 4; k++) {
            Due.is("bar(" + k + ")", x.bar(k), want[k]);
        }
        Due.yes("back", x.back());
        Due.is("bar(1)", x.bar(1), 0);
        Due.is("wound(0, 3)", x.wound(0, 3), 0);
        Due.is("wound(3, 2)", x.wound(3, 2), -1);
        Due.is("count(3)", x.count(3), 2);
        for (int i = 3; i <= 40; i++) {
            Due.is("pass", x.pass(3), i);
        }
        Due.is("a 41st", x.pass(3), -1);
        Due.yes("back", x.back());
        Due.is("a 40th", x.pass(-1), 40);
    }

    private static void winding() {
        PuppetBridge x = new PuppetBridge();
        x.bars(3);
        int[] passes = {1, 1, -2, 1, 2};
        for (int p : passes) {
            x.pass(p);
        }
        // 0 1 2, 1 0 2, 0 1 2, 0 2 1, 2 0 1, 2 1 0
        Due.is("wound(0, 1)", x.wound(0, 1), 3);
        Due.is("wound(1, 0)", x.wound(1, 0), 3);
        Due.is("wound(1, 2)", x.wound(1, 2), -1);
        Due.is("wound(0, 2)", x.wound(0, 2), 1);
        int[][] wrong = {{0, 0}, {0, 3}, {3, 0}, {-1, 0}, {0, -1}};
        for (int[] w : wrong) {
            Due.is("wound of others", x.wound(w[0], w[1]), -1000);
        }
        Due.is("alike(-1)", x.alike(-1), -1);
        Due.is("alike(6)", x.alike(6), -1);
        Due.is("alike(5)", x.alike(5), 1);
    }

    private static PuppetBridge bridge(int n, int... passes) {
        PuppetBridge x = new PuppetBridge();
        x.bars(n);
        for (int p : passes) {
            x.pass(p);
        }
        return x;
    }

    private static void relations() {
        Due.is("i, -i", bridge(2, 1, -1).free(), 1);
        Due.is("i, i", bridge(2, 1, 1).free(), 0);
        Due.is("far ones change", bridge(4, 1, 3, -1, -3).free(), 1);
        Due.is("far ones of other kinds change", bridge(4, 1, -3, -1, 3).free(), 1);
        Due.is("near ones don't", bridge(3, 1, 2, -1, -2).free(), 0);
        Due.is("1 2 1 is 2 1 2", bridge(3, 1, 2, 1, -2, -1, -2).free(), 1);
        Due.is("so BEHIND", bridge(3, -1, -2, -1, 2, 1, 2).free(), 1);
        Due.is("not of both kinds", bridge(3, 1, -2, 1, -2, 1, -2).free(), 0);
        Due.is("1 -2 1 is not 2 -1 2", bridge(3, 1, -2, 1, -2, 1, -2).free(), 0);
        Due.is("a plait with nothing wound", bridge(3, 1, -2, 1, -2, 1, -2).wound(0, 1), 0);
        Due.is("3 4 3 is 4 3 4", bridge(5, 3, 4, 3, -4, -3, -4).free(), 1);
    }

    private static void fullTwist() {
        int[] half = {1, 2, 3, 1, 2, 1};
        PuppetBridge x = bridge(4);
        for (int k = 0; k < 12; k++) {
            x.pass(half[k % 6]);
        }
        Due.is("a full twist is not FREE", x.free(), 0);
        Due.is("every two are wound twice", x.wound(1, 3), 2);
        Due.is("every BAR is at its SPOT", x.bar(1), 1);
        Due.is("undo: more than 6", x.undo(), -1);
        x.pass(2);
        for (int k = 11; k >= 0; k--) {
            Due.is("not yet FREE", x.free(), 0);
            x.pass(-half[k % 6]);
        }
        Due.is("it goes past a PASS between", x.undo(), 1);
        Due.row("undo", x, -2);
        Due.is("alike(0)", x.alike(0), 0);
        Due.is("alike(12)", x.alike(12), 0);
    }

    private static String[] startKey(int n) {
        String[] images = new String[n];
        for (int k = 0; k < n; k++) {
            images[k] = String.valueOf((char) ('a' + k));
        }
        return images;
    }

    private static String inverse(String w) {
        StringBuilder b = new StringBuilder();
        for (int i = w.length() - 1; i >= 0; i--) {
            b.append((char) (w.charAt(i) ^ 32));
        }
        return b.toString();
    }

    private static String join(String... words) {
        StringBuilder b = new StringBuilder();
        for (String w : words) {
            for (int i = 0; i < w.length(); i++) {
                int last = b.length() - 1;
                if (last >= 0 && b.charAt(last) == (w.charAt(i) ^ 32)) {
                    b.setLength(last);
                } else {
                    b.append(w.charAt(i));
                }
            }
        }
        return b.toString();
    }

    private static String[] act(String[] images, int pass) {
        String[] r = images.clone();
        int i = Math.abs(pass) - 1;
        if (pass > 0) {
            r[i] = join(images[i], images[i + 1], inverse(images[i]));
            r[i + 1] = images[i];
        } else {
            r[i] = images[i + 1];
            r[i + 1] = join(inverse(images[i + 1]), images[i], images[i + 1]);
        }
        return r;
    }

    private static String key(int n, int[] word, int from) {
        String[] images = startKey(n);
        for (int k = from; k < word.length; k++) {
            images = act(images, word[k]);
        }
        return String.join("|", images);
    }

    private static int[] randomWord(int n, int length) {
        int[] w = new int[length];
        for (int k = 0; k < length; k++) {
            w[k] = (1 + RANDOM.nextInt(n - 1)) * (RANDOM.nextBoolean() ? 1 : -1);
        }
        return w;
    }

    /** A row that is ALIKE this one, made by the moves that the document tells. */
    private static int[] mess(int n, int[] word, int most) {
        List<Integer> w = new ArrayList<>();
        for (int p : word) {
            w.add(p);
        }
        for (int step = 0; step < 200; step++) {
            int k = RANDOM.nextInt(w.size() + 1);
            if (RANDOM.nextInt(3) == 0 && w.size() + 2 <= most) {
                int p = randomWord(n, 1)[0];
                w.add(k, -p);
                w.add(k, p);
            } else if (k + 1 < w.size() && Math.abs(Math.abs(w.get(k)) - Math.abs(w.get(k + 1))) >= 2) {
                int p = w.get(k);
                w.set(k, w.get(k + 1));
                w.set(k + 1, p);
            } else if (k + 2 < w.size() && w.get(k).equals(w.get(k + 2)) && Math.abs(w.get(k) - w.get(k + 1)) == 1) {
                int p = w.get(k);
                int q = w.get(k + 1);
                w.set(k, q);
                w.set(k + 1, p);
                w.set(k + 2, q);
            }
        }
        return w.stream().mapToInt(Integer::intValue).toArray();
    }

    private static void randomRows(int n) {
        String start = String.join("|", startKey(n));
        for (int run = 0; run < 300; run++) {
            int[] core = randomWord(n, RANDOM.nextInt(run % 3 == 0 ? 1 : 9));
            int[] word = mess(n, core, run % 2 == 0 ? 40 : 22);
            PuppetBridge x = bridge(n, word);
            Due.is("free", x.free(), key(n, word, 0).equals(start) ? 1 : 0);
            for (int i = 0; i <= word.length; i += 1 + RANDOM.nextInt(4)) {
                Due.is("alike(" + i + ")", x.alike(i), key(n, word, i).equals(start) ? 1 : 0);
            }
        }
    }

    /** For each braid of at most six passes the first of its shortest rows. */
    private static Map<String, int[]> ball(int n) {
        Map<String, int[]> found = new HashMap<>();
        List<int[]> level = new ArrayList<>();
        List<String[]> images = new ArrayList<>();
        level.add(new int[0]);
        images.add(startKey(n));
        found.put(String.join("|", startKey(n)), new int[0]);
        for (int length = 1; length <= 6; length++) {
            List<int[]> next = new ArrayList<>();
            List<String[]> nextImages = new ArrayList<>();
            for (int k = 0; k < level.size(); k++) {
                for (int c = 2; c < 2 * n; c++) {
                    int pass = c % 2 == 0 ? c / 2 : -(c / 2);
                    String[] moved = act(images.get(k), pass);
                    int[] word = java.util.Arrays.copyOf(level.get(k), length);
                    word[length - 1] = pass;
                    if (found.putIfAbsent(String.join("|", moved), word) == null) {
                        next.add(word);
                        nextImages.add(moved);
                    }
                }
            }
            level = next;
            images = nextImages;
        }
        return found;
    }

    private static int[] contrary(int[] word) {
        int[] r = new int[word.length];
        for (int k = 0; k < word.length; k++) {
            r[k] = -word[word.length - 1 - k];
        }
        return r;
    }

    private static void undoing(int n) {
        Map<String, int[]> ball = ball(n);
        undoingAll(n, ball);
        for (int run = 0; run < 400; run++) {
            int[] core = randomWord(n, RANDOM.nextInt(11));
            int[] word = mess(n, core, 14 + RANDOM.nextInt(27));
            PuppetBridge x = bridge(n, word);
            int[] want = ball.get(key(n, contrary(word), 0));
            Due.is("undo", x.undo(), want == null ? -1 : want.length);
            Due.row("undo", x, want == null ? new int[0] : want);
            Due.is("nothing changes: PASSES", x.count(3), word.length);
            if (want != null && word.length + want.length <= 40) {
                Due.is("free", x.free(), want.length == 0 ? 1 : 0);
                for (int p : want) {
                    x.pass(p);
                }
                Due.is("free behind undo", x.free(), 1);
                Due.is("undo behind undo", x.undo(), 0);
                Due.row("undo behind undo", x);
            }
        }
    }

    /** Every braid of at most six passes has its first shortest row found. */
    private static void undoingAll(int n, Map<String, int[]> ball) {
        PuppetBridge x = new PuppetBridge();
        for (int[] word : ball.values()) {
            x.bars(n);
            for (int p : contrary(word)) {
                x.pass(p);
            }
            Due.is("undo", x.undo(), word.length);
            for (int k = 0; k < word.length; k++) {
                Due.is("undo's row(" + k + ")", x.row(k), word[k]);
            }
        }
    }

    private static void undoRefused() {
        PuppetBridge x = bridge(2, 1, 1, 1, 1, 1, 1);
        Due.is("undo 6", x.undo(), 6);
        Due.row("undo 6", x, -1, -1, -1, -1, -1, -1);
        x.pass(1);
        Due.is("undo 7", x.undo(), -1);
        Due.is("the ROW stays", x.count(6), 6);
        Due.is("alike(5)", x.alike(5), 0);
        Due.is("alike(7)", x.alike(7), 1);
    }

    /** Rows whose curve grows fastest: long ones, and their own contraries behind them. */
    private static void hardest() {
        int[][] plaits = {{1, -2}, {1, -2, 3, -4}, {1, 3, -2, -4}, {1, 2, -3, -4}, {2, -3}, {1, -2, 3}};
        for (int[] plait : plaits) {
            PuppetBridge x = bridge(5);
            for (int k = 0; k < 20; k++) {
                x.pass(plait[k % plait.length]);
            }
            for (int k = 19; k >= 1; k--) {
                x.pass(-plait[k % plait.length]);
                Due.is("not yet free", x.free(), 0);
            }
            Due.is("undo", x.undo(), 1);
            Due.row("undo", x, -plait[0]);
            x.pass(-plait[0]);
            Due.is("free", x.free(), 1);
            Due.is("alike(20)", x.alike(20), 0);
            PuppetBridge y = bridge(5);
            for (int k = 0; k < 40; k++) {
                y.pass(plait[k % plait.length]);
            }
            Due.is("40 of them", y.free(), 0);
            Due.is("undo 40 of them", y.undo(), -1);
        }
    }
}
