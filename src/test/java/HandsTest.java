import java.util.Random;

/** Promises 29 to 31: scenes and casts; against a search through all casts. */
public final class HandsTest {
    private static int[] best;
    private static int least;

    public static void main(String[] args) {
        scenes();
        known();
        brute();
        Due.finish("HandsTest");
    }

    private static void scenes() {
        PuppetBridge x = new PuppetBridge();
        int[] wrong = {-1, 16, Integer.MIN_VALUE, Integer.MAX_VALUE};
        for (int bits : wrong) {
            Due.is("scene(" + bits + ")", x.scene(bits), -1);
        }
        for (int k = 0; k < 8; k++) {
            Due.is("scene", x.scene(k == 3 ? 0 : 15 - k), k);
        }
        Due.is("a ninth", x.scene(1), -1);
        Due.is("count(4)", x.count(4), 8);
        x.figure(1, 1, 1);
        x.seen(0, 0, 0, 0);
        Due.is("count(5)", x.count(5), 1);
        Due.is("clear", x.clear(), 8);
        Due.is("count(4)", x.count(4), 0);
        Due.is("count(5)", x.count(5), 0);
        Due.is("clear", x.clear(), 0);
    }

    private static void known() {
        PuppetBridge x = new PuppetBridge();
        x.scene(5);
        Due.is("cast(1)", x.cast(1), 0);
        Due.row("cast(1)", x, 0, -1, 0, -1);
        x.scene(7);
        Due.is("cast(1): three BARS, two HANDS", x.cast(1), -1);
        Due.row("the ROW stays", x, 0, -1, 0, -1);
        Due.is("cast(0)", x.cast(0), -1);
        Due.is("cast(4)", x.cast(4), -1);
        Due.row("the ROW stays", x, 0, -1, 0, -1);
        Due.is("cast(2)", x.cast(2), 0);
        Due.row("cast(2)", x, 0, -1, 0, -1, 0, 1, 0, -1);
        PuppetBridge y = new PuppetBridge();
        int[] bits = {3, 5, 6, 15};
        for (int b : bits) {
            y.scene(b);
        }
        Due.is("cast(2)", y.cast(2), 0);
        Due.row("cast(2): BARS 1 and 2 go on with 0", y, 0, 0, -1, -1, 0, -1, 0, -1, -1, 0, 0, -1, 1, 0, 0, 1);
        PuppetBridge z = new PuppetBridge();
        z.scene(0);
        Due.is("an empty SCENE", z.cast(1), 0);
        Due.row("an empty SCENE", z, -1, -1, -1, -1);
    }

    private static void brute() {
        Random random = new Random(11);
        for (int run = 0; run < 400; run++) {
            PuppetBridge x = new PuppetBridge();
            int[] bits = new int[random.nextInt(run % 8 == 0 ? 5 : 4)];
            for (int s = 0; s < bits.length; s++) {
                bits[s] = random.nextInt(16) | random.nextInt(16);
                x.scene(bits[s]);
            }
            for (int p = 1; p <= 3; p++) {
                if (p == 3 && bits.length > 3) {
                    continue;
                }
                best = null;
                least = Integer.MAX_VALUE;
                search(bits, p, 0, 0, new int[4 * bits.length]);
                int before = x.count(6);
                Due.is("cast", x.cast(p), best == null ? -1 : least);
                if (best != null) {
                    Due.row("cast", x, best);
                } else {
                    Due.is("the ROW stays", x.count(6), before);
                }
            }
        }
    }

    private static void search(int[] bits, int p, int slot, int cost, int[] cast) {
        if (cost >= least) {
            return;
        }
        if (slot == cast.length) {
            least = cost;
            best = cast.clone();
            return;
        }
        int scene = slot / 4;
        int bar = slot % 4;
        if ((bits[scene] >> bar & 1) == 0) {
            cast[slot] = -1;
            search(bits, p, slot + 1, cost, cast);
            return;
        }
        for (int player = 0; player < p; player++) {
            int held = 0;
            for (int b = 0; b < bar; b++) {
                held += cast[4 * scene + b] == player ? 1 : 0;
            }
            if (held < 2) {
                boolean changes = scene > 0 && cast[slot - 4] != -1 && cast[slot - 4] != player;
                cast[slot] = player;
                search(bits, p, slot + 1, cost + (changes ? 1 : 0), cast);
            }
        }
    }
}
