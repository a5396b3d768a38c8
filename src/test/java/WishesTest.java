import java.util.ArrayList;
import java.util.List;
import java.util.Random;

/** Promises 32 to 35: reach, tell-tales, broken strings, the row; against bridges that really pull and play. */
public final class WishesTest {
    private static final Random RANDOM = new Random(5);

    public static void main(String[] args) {
        reachRefused();
        reachKnown();
        reachTried();
        tales();
        talesKnown();
        allEight();
        talesTried();
        Due.finish("WishesTest");
    }

    private static void reachRefused() {
        PuppetBridge x = new PuppetBridge();
        Due.none("no figure", () -> x.reach(0, 0, 1, 0, 0));
        x.figure(5, 4, 8);
        Due.none("no strings", () -> x.reach(0, 0, 1, 0, 0));
        for (int s = 0; s < 5; s++) {
            x.string(0, 0, 1, 999);
        }
        x.mend(0, 2, true);
        int[][] wrong = {{-1, 0, 1, 0, 0}, {1, 0, 1, 0, 0}, {0, -1, 1, 0, 0}, {0, 1, 1, 0, 0}, {0, 0, 0, 0, 0},
            {0, 0, -1, 0, 0}, {0, 0, 32, 0, 0}, {0, 0, 33, 0, 0}, {0, 0, 4, 0, 0}, {0, 0, 5, 0, 0}, {0, 0, 27, 0, 0},
            {0, 0, Integer.MIN_VALUE, 0, 0}, {0, 0, 1, 1000001, 0}, {0, 0, 1, -1000001, 0}, {0, 0, 1, 0, 1000001},
            {0, 0, 1, 0, -1000001}};
        for (int[] w : wrong) {
            Due.none("reach of others", () -> x.reach(w[0], w[1], w[2], w[3], w[4]));
        }
        Due.row("no ROW", x);
        Due.is("the farthest", x.reach(0, 0, 11, 1000000, -1000000), 2 * 999645L * 999645L);
        Due.row("the farthest", x, 0, 0, 2);
    }

    private static void reachKnown() {
        PuppetBridge x = new PuppetBridge();
        x.figure(10, 0, 8);
        x.string(0, 0, 1, 999);
        x.string(0, 0, -1, 999);
        x.place(0, 100, 5000);
        Due.is("east", x.reach(0, 0, 3, 1100, 5000), 0);
        Due.row("the least sum", x, 4, 0);
        Due.is("west", x.reach(0, 0, 3, -900, 5000), 0);
        Due.row("west", x, 0, 4);
        Due.is("below the FLOOR or not", x.reach(0, 0, 1, 100, 4000), 0);
        Due.row("MOST is 8", x, 8);
        Due.is("both ways: the first row", x.reach(0, 0, 3, 100, 4000), 0);
        Due.row("both ways: the first row", x, 0, 8);
        x.pull(0, 1, 9);
        Due.is("all else as it is", x.reach(0, 0, 1, 1100, 5000), 1000L * 1000L + 1000L * 1000L);
        Due.row("of equal ones the least sum", x, 0);
        Due.is("PULLS stay", x.pulled(0, 0, 0), 0);
        Due.is("HEADING stays", x.at(0, 0, 0), 8);
        x.place(0, 0, 0);
        Due.is("its HIP is where it is", x.reach(0, 0, 2, 0, 2000), 0);
        Due.row("its HIP is where it is", x, 0);
    }

    private static int[] randomFigure(PuppetBridge x, int limbs, int strings) {
        int[] on = new int[limbs];
        x.figure(1 + RANDOM.nextInt(10), RANDOM.nextInt(16), RANDOM.nextInt(9));
        for (int k = 1; k < limbs; k++) {
            on[k] = RANDOM.nextInt(k);
            x.limb(0, on[k], RANDOM.nextInt(2), 1 + RANDOM.nextInt(10), RANDOM.nextInt(16), RANDOM.nextInt(9));
        }
        for (int s = 0; s < strings; s++) {
            x.string(0, RANDOM.nextInt(limbs), RANDOM.nextBoolean() ? 1 : -1, 999);
        }
        return on;
    }

    private static void reachTried() {
        for (int run = 0; run < 60; run++) {
            PuppetBridge x = new PuppetBridge();
            int limbs = 1 + RANDOM.nextInt(6);
            int strings = 1 + RANDOM.nextInt(8);
            randomFigure(x, limbs, strings);
            x.place(0, RANDOM.nextInt(100), 8000);
            for (int s = 0; s < strings; s++) {
                x.pull(0, s, RANDOM.nextInt(10));
            }
            List<Integer> chosen = new ArrayList<>();
            int bits = 0;
            for (int s = 0; s < strings; s++) {
                if (RANDOM.nextInt(strings) < 2 && chosen.size() < 3 || s == strings - 1 && chosen.isEmpty()) {
                    chosen.add(s);
                    bits |= 1 << s;
                } else if (RANDOM.nextInt(6) == 0) {
                    x.mend(0, s, true);
                }
            }
            int limb = RANDOM.nextInt(limbs);
            int wishX = RANDOM.nextInt(4000) - 2000;
            int wishY = 8000 + RANDOM.nextInt(4000) - 2000;
            long got = x.reach(0, limb, bits, wishX, wishY);
            int[] row = new int[chosen.size()];
            Due.is("numbers of the ROW", x.count(6), row.length);
            for (int i = 0; i < row.length; i++) {
                row[i] = x.row(i);
            }
            tryAll(x, limb, chosen, wishX, wishY, got, row);
        }
    }

    private static void tryAll(PuppetBridge x, int limb, List<Integer> chosen, int wishX, int wishY, long got, int[] row) {
        long least = Long.MAX_VALUE;
        int leastSum = 0;
        int[] best = new int[chosen.size()];
        int codes = (int) Math.round(Math.pow(10, chosen.size()));
        for (int code = 0; code < codes; code++) {
            int[] pulls = new int[chosen.size()];
            int rest = code;
            int sum = 0;
            for (int i = pulls.length - 1; i >= 0; i--) {
                pulls[i] = rest % 10;
                sum += pulls[i];
                rest /= 10;
                x.mend(0, chosen.get(i), false);
                x.pull(0, chosen.get(i), pulls[i]);
            }
            long dx = x.at(0, limb, 1) - wishX;
            long dy = x.at(0, limb, 2) - wishY;
            long d = dx * dx + dy * dy;
            if (d < least || d == least && sum < leastSum) {
                least = d;
                leastSum = sum;
                best = pulls;
            }
        }
        Due.is("reach", got, least);
        for (int i = 0; i < row.length; i++) {
            Due.is("reach's row(" + i + ")", row[i], best[i]);
        }
    }

    private static void tales() {
        PuppetBridge x = new PuppetBridge();
        Due.is("seen of no figure", x.seen(0, 0, 0, 0), -1);
        Due.is("broken of no figure", x.broken(0), -1);
        x.figure(10, 3, 8);
        int[][] wrong = {{-1, 0, 0, 0}, {1, 0, 0, 0}, {0, -1, 0, 0}, {0, 80, 0, 0}, {0, 0, -1, 0}, {0, 0, 1, 0},
            {0, 0, 0, -1}, {0, 0, 0, 16}};
        for (int[] w : wrong) {
            Due.is("seen of others", x.seen(w[0], w[1], w[2], w[3]), -1);
        }
        Due.is("none seen: nothing is BROKEN", x.broken(0), 1);
        Due.row("none seen", x, 0);
        for (int k = 1; k <= 20; k++) {
            Due.is("seen", x.seen(0, 4 * k - 1, 0, 3), k);
        }
        Due.is("a 21st", x.seen(0, 0, 0, 3), -1);
        Due.is("count(5)", x.count(5), 20);
        Due.is("at REST without a SCORE", x.broken(0), 1);
        x.clear();
        x.pass(1);
        x.undo();
        Due.row("undo", x, -1);
        Due.is("seen", x.seen(0, 79, 0, 15), 1);
        Due.is("none does", x.broken(0), 0);
        Due.row("the ROW stays", x, -1);
        Due.is("broken(-1)", x.broken(-1), -1);
        Due.is("broken(1)", x.broken(1), -1);
        x.figure(1, 1, 1);
        Due.is("none seen of the other one", x.broken(1), 1);
    }

    private static void talesKnown() {
        PuppetBridge x = new PuppetBridge();
        x.figure(10, 0, 8);
        for (int s = 0; s < 3; s++) {
            x.string(0, 0, 1, 1);
        }
        Due.score(x, 0, "a2,b2,c2;.;a5");
        x.seen(0, 0, 0, 4);
        Due.is("one of three", x.broken(0), 3);
        Due.row("the first by bits", x, 1);
        x.seen(0, 2, 0, 7);
        Due.is("not a", x.broken(0), 2);
        Due.row("not a", x, 2);
        x.seen(0, 79, 0, 7);
        Due.is("behind the SCORE's end", x.broken(0), 2);
        x.set(0, 1);
        Due.is("RATE counts", x.broken(0), 0);
        x.set(0, 9);
        x.pull(0, 1, 9);
        x.mend(0, 2, true);
        Due.is("what is now does not count", x.broken(0), 2);
        x.clear();
        x.seen(0, 0, 0, 0);
        Due.is("all three", x.broken(0), 1);
        Due.row("all three", x, 7);
        Due.is("PULLS stay", x.pulled(0, 1, 0), 9);
        x.clear();
        x.set(0, 2);
        Due.score(x, 0, "a9");
        x.seen(0, 3, 0, 8);
        x.seen(0, 1, 0, 4);
        Due.is("PULLS go on behind the SCORE's end", x.broken(0), 1);
        Due.row("PULLS go on", x, 0);
    }

    private static void allEight() {
        PuppetBridge x = new PuppetBridge();
        x.figure(10, 5, 8);
        for (int s = 0; s < 8; s++) {
            x.string(0, 0, 1, 999);
        }
        Due.score(x, 0, "a1,b1,c1,d1,e1,f1,g1,h1");
        x.seen(0, 0, 0, 5);
        Due.is("all eight", x.broken(0), 1);
        Due.row("all eight", x, 255);
        x.clear();
        x.seen(0, 9, 0, 9);
        Due.is("four of eight", x.broken(0), 70);
        Due.row("four of eight", x, 15);
    }

    private static void talesTried() {
        for (int run = 0; run < 60; run++) {
            PuppetBridge x = new PuppetBridge();
            int limbs = 1 + RANDOM.nextInt(3);
            int strings = RANDOM.nextInt(6);
            long seed = RANDOM.nextLong();
            int rate = 1 + RANDOM.nextInt(9);
            build(x, seed, limbs, strings, rate);
            int truth = RANDOM.nextInt(1 << strings);
            PuppetBridge real = broken(seed, limbs, strings, rate, truth);
            int[][] tales = new int[RANDOM.nextInt(5)][];
            for (int t = 0; t < tales.length; t++) {
                int beat = RANDOM.nextInt(12);
                int limb = RANDOM.nextInt(limbs);
                real.again();
                breakAll(real, truth);
                real.play(beat + 1);
                tales[t] = new int[] {beat, limb, real.at(0, limb, 0)};
                x.seen(0, beat, limb, tales[t][2]);
            }
            judge(x, seed, new int[] {limbs, strings, rate}, tales);
        }
    }

    private static void judge(PuppetBridge x, long seed, int[] shape, int[][] tales) {
        int fewest = 99;
        int sets = 0;
        int first = 0;
        for (int bits = 0; bits < 1 << shape[1]; bits++) {
            boolean explains = true;
            PuppetBridge y = broken(seed, shape[0], shape[1], shape[2], bits);
            for (int[] t : tales) {
                y.again();
                breakAll(y, bits);
                y.play(t[0] + 1);
                explains &= y.at(0, t[1], 0) == t[2];
            }
            int size = Integer.bitCount(bits);
            if (explains && size < fewest) {
                fewest = size;
                sets = 1;
                first = bits;
            } else if (explains && size == fewest) {
                sets++;
            }
        }
        Due.is("broken", x.broken(0), sets);
        Due.row("broken", x, first);
    }

    private static void breakAll(PuppetBridge x, int bits) {
        for (int s = 0; s < 8; s++) {
            if ((bits >> s & 1) == 1) {
                x.mend(0, s, true);
            }
        }
    }

    private static PuppetBridge broken(long seed, int limbs, int strings, int rate, int bits) {
        PuppetBridge x = new PuppetBridge();
        build(x, seed, limbs, strings, rate);
        breakAll(x, bits);
        return x;
    }

    private static void build(PuppetBridge x, long seed, int limbs, int strings, int rate) {
        Random r = new Random(seed);
        x.figure(1 + r.nextInt(20), r.nextInt(16), r.nextInt(9));
        for (int k = 1; k < limbs; k++) {
            x.limb(0, r.nextInt(k), r.nextInt(2), 1 + r.nextInt(20), r.nextInt(16), r.nextInt(9));
        }
        for (int s = 0; s < strings; s++) {
            x.string(0, r.nextInt(limbs), r.nextBoolean() ? 1 : -1, 999);
        }
        x.set(0, rate);
        StringBuilder text = new StringBuilder(".");
        for (int b = 0; b < 6 && strings > 0; b++) {
            text.append(';').append((char) ('a' + r.nextInt(strings))).append(r.nextInt(10));
            text.append(',').append((char) ('a' + r.nextInt(strings))).append(r.nextInt(10));
        }
        Due.score(x, 0, text.toString());
    }
}
