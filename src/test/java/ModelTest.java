import java.util.ArrayList;
import java.util.List;
import java.util.Random;

/** Random plays against a second, plain telling of figures, scores and the play. */
public final class ModelTest {
    private static final int[][] WAYS = {
        {0, 100}, {38, 92}, {71, 71}, {92, 38}, {100, 0}, {92, -38}, {71, -71}, {38, -92},
        {0, -100}, {-38, -92}, {-71, -71}, {-92, -38}, {-100, 0}, {-92, 38}, {-71, 71}, {-38, 92}};
    private static final Random RANDOM = new Random(3);

    private static final class Doll {
        final List<int[]> limbs = new ArrayList<>();   // on, end, length, rest, most
        final List<int[]> strings = new ArrayList<>(); // limb, side, strength, pull, wish, wear, broken
        List<String> beats = new ArrayList<>();
        int bar;
        int lift;
        int placed;
        int hip;

        int heading(int k) {
            int sum = 0;
            for (int[] s : strings) {
                sum += s[0] == k && s[6] == 0 ? s[1] * s[3] : 0;
            }
            int most = limbs.get(k)[4];
            sum = sum > most ? most : sum < -most ? -most : sum;
            return (limbs.get(k)[3] + sum + 32) % 16;
        }

        int[] begin(int k) {
            if (k == 0) {
                return new int[] {0, 0};
            }
            return limbs.get(k)[1] == 0 ? begin(limbs.get(k)[0]) : point(limbs.get(k)[0] + 1);
        }

        int[] point(int p) {
            if (p == 0) {
                return new int[] {0, 0};
            }
            int[] b = begin(p - 1);
            int[] way = WAYS[heading(p - 1)];
            int length = limbs.get(p - 1)[2];
            return new int[] {b[0] + length * way[0], b[1] + length * way[1]};
        }

        int y() {
            int y = lift;
            for (int p = 0; p <= limbs.size(); p++) {
                y = Math.max(y, -point(p)[1]);
            }
            return y;
        }

        int stands() {
            for (int p = 0; p <= limbs.size(); p++) {
                if (y() + point(p)[1] == 0) {
                    return p;
                }
            }
            return -1;
        }

        void change(boolean slippery, Runnable does) {
            int stood = stands();
            int held = stood < 0 ? 0 : hip + point(stood)[0];
            does.run();
            if (!slippery && stood >= 0 && stands() == stood) {
                hip = held - point(stood)[0];
            }
        }

        void move(int[] s, int v) {
            if (s[6] == 0) {
                s[5] += Math.abs(v - s[3]);
                s[6] = s[5] > s[2] ? 1 : 0;
            }
            s[3] = v;
        }

        void beat(int beat, int rate) {
            String items = beat < beats.size() ? beats.get(beat) : ".";
            for (String item : items.equals(".") ? new String[0] : items.split(",")) {
                int digit = item.charAt(1) - '0';
                if (item.charAt(0) == '+') {
                    lift = Math.min(9999, lift + 100 * digit);
                } else if (item.charAt(0) == '-') {
                    lift = Math.max(0, lift - 100 * digit);
                } else {
                    strings.get(item.charAt(0) - 'a')[4] = digit;
                }
            }
            for (int[] s : strings) {
                int v = s[3];
                for (int k = 0; k < rate && v != s[4]; k++) {
                    v += v < s[4] ? 1 : -1;
                }
                move(s, v);
            }
        }
    }

    private static final class Show {
        final List<Doll> dolls = new ArrayList<>();
        int beat;
        int rate = 9;
        int near;
        boolean slippery;
        final int[][] met = new int[4][4];
        final boolean[][] together = new boolean[4][4];

        boolean touch(int a, int b) {
            Doll d = dolls.get(a);
            Doll e = dolls.get(b);
            for (int p = 0; p <= d.limbs.size(); p++) {
                for (int q = 0; q <= e.limbs.size(); q++) {
                    int x = d.hip + d.point(p)[0] - e.hip - e.point(q)[0];
                    int y = d.y() + d.point(p)[1] - e.y() - e.point(q)[1];
                    if (x >= -near && x <= near && y >= -near && y <= near) {
                        return true;
                    }
                }
            }
            return false;
        }

        void play() {
            for (Doll d : dolls) {
                d.change(slippery, () -> d.beat(beat, rate));
            }
            for (int a = 0; a < dolls.size(); a++) {
                for (int b = 0; b < a; b++) {
                    boolean now = touch(a, b);
                    met[a][b] += now && !together[a][b] ? 1 : 0;
                    together[a][b] = now;
                }
            }
            beat++;
        }
    }

    /** Reads a text by going down its rules; wrong is where it can't go on. */
    private static final class Reader {
        final String text;
        final int strings;
        int p;
        int wrong = -1;

        Reader(String text, int strings) {
            this.text = text;
            this.strings = strings;
        }

        char sign() {
            return p < Math.min(text.length(), 60) ? text.charAt(p) : 0;
        }

        void fail() {
            if (wrong < 0) {
                wrong = p;
            }
        }

        void take(String signs) {
            if (wrong >= 0 || sign() == 0 || signs.indexOf(sign()) < 0) {
                fail();
            } else {
                p++;
            }
        }

        List<String> beats(int depth) {
            List<String> all = new ArrayList<>(beatOrRow(depth));
            while (wrong < 0 && sign() == ';') {
                p++;
                all.addAll(beatOrRow(depth));
            }
            return all;
        }

        List<String> beatOrRow(int depth) {
            List<String> all = new ArrayList<>();
            if (sign() == '(' && depth < 3) {
                p++;
                List<String> row = beats(depth + 1);
                take(")");
                take("*");
                take("23456789");
                for (int k = 0; wrong < 0 && k < text.charAt(p - 1) - '0'; k++) {
                    all.addAll(row);
                }
            } else if (sign() == '.') {
                p++;
                all.add(".");
            } else {
                int from = p;
                item();
                while (wrong < 0 && sign() == ',') {
                    p++;
                    item();
                }
                all.add(text.substring(from, p));
            }
            return all;
        }

        void item() {
            take("abcdefgh".substring(0, strings) + "+-");
            take("0123456789");
        }

        int answer(List<String> into) {
            List<String> all = beats(0);
            if (wrong < 0 && p < text.length()) {
                fail();
            }
            if (wrong >= 0) {
                return -1 - wrong;
            }
            if (all.size() > 80) {
                return -100;
            }
            into.clear();
            into.addAll(all);
            return all.size();
        }
    }

    public static void main(String[] args) {
        for (int run = 0; run < 400; run++) {
            runOnce();
        }
        for (int run = 0; run < 30000; run++) {
            readOnce();
        }
        Due.finish("ModelTest");
    }

    private static String randomText(int strings, int depth) {
        StringBuilder b = new StringBuilder();
        int beats = 1 + RANDOM.nextInt(4);
        for (int k = 0; k < beats; k++) {
            b.append(k == 0 ? "" : ";");
            if (depth < 4 && RANDOM.nextInt(5 + 3 * depth) == 0) {
                b.append('(').append(randomText(strings, depth + 1)).append(")*").append(2 + RANDOM.nextInt(8));
            } else if (RANDOM.nextInt(4) == 0) {
                b.append('.');
            } else {
                int items = 1 + RANDOM.nextInt(2);
                for (int i = 0; i < items; i++) {
                    b.append(i == 0 ? "" : ",");
                    int s = RANDOM.nextInt(strings + 2);
                    b.append(s < strings ? (char) ('a' + s) : s == strings ? '+' : '-').append(RANDOM.nextInt(10));
                }
            }
        }
        return b.toString();
    }

    private static String shortText(int strings) {
        String text = randomText(strings, 0);
        return text.length() > 100 ? text.substring(0, 100) : text;
    }

    private static void readOnce() {
        int strings = RANDOM.nextInt(4);
        StringBuilder b = new StringBuilder(shortText(3));
        String signs = "abcdh.;,()*+-0123456789 ~";
        for (int k = RANDOM.nextInt(4); k > 0 && b.length() > 0; k--) {
            int at = RANDOM.nextInt(b.length());
            char sign = signs.charAt(RANDOM.nextInt(signs.length()));
            if (RANDOM.nextInt(3) == 0) {
                b.setCharAt(at, sign);
            } else if (RANDOM.nextInt(2) == 0) {
                b.setLength(at);
            } else if (b.length() < 100) {
                b.insert(at, sign);
            }
        }
        PuppetBridge x = new PuppetBridge();
        x.figure(1, 1, 1);
        for (int s = 0; s < strings; s++) {
            x.string(0, 0, 1, 1);
        }
        Due.is("score of \"" + b + "\"", Due.score(x, 0, b.toString()),
            new Reader(b.toString(), strings).answer(new ArrayList<>()));
    }

    private static void runOnce() {
        PuppetBridge x = new PuppetBridge();
        Show show = new Show();
        grow(x, show);
        grow(x, show);
        for (int step = 0; step < 60; step++) {
            int f = RANDOM.nextInt(show.dolls.size());
            Doll d = show.dolls.get(f);
            switch (RANDOM.nextInt(12)) {
                case 0: grow(x, show); break;
                case 1: limb(x, f, d); break;
                case 2: case 3: string(x, f, d); break;
                case 4: place(x, f, d); break;
                case 5: pull(x, f, d, show.slippery); break;
                case 6: mend(x, f, d, show.slippery); break;
                case 7: set(x, show); break;
                case 8: score(x, f, d); break;
                case 9: if (RANDOM.nextInt(4) == 0) { again(x, show); } break;
                default: play(x, show);
            }
            compare(x, show);
        }
    }

    private static void grow(PuppetBridge x, Show show) {
        int[] limb = {0, 0, 1 + RANDOM.nextInt(20), RANDOM.nextInt(16), RANDOM.nextInt(9)};
        int got = x.figure(limb[2], limb[3], limb[4]);
        if (show.dolls.size() == 4) {
            Due.is("figure", got, -1);
            return;
        }
        Doll d = new Doll();
        d.limbs.add(limb);
        show.dolls.add(d);
        Due.is("figure", got, show.dolls.size() - 1);
    }

    private static void limb(PuppetBridge x, int f, Doll d) {
        int[] limb = {RANDOM.nextInt(d.limbs.size()), RANDOM.nextInt(2), 1 + RANDOM.nextInt(20), RANDOM.nextInt(16),
            RANDOM.nextInt(9)};
        int got = x.limb(f, limb[0], limb[1], limb[2], limb[3], limb[4]);
        Due.is("limb", got, d.limbs.size() == 8 ? -1 : d.limbs.size());
        if (d.limbs.size() < 8) {
            d.limbs.add(limb);
        }
    }

    private static void string(PuppetBridge x, int f, Doll d) {
        int strength = RANDOM.nextBoolean() ? 999 : 1 + RANDOM.nextInt(30);
        int[] s = {RANDOM.nextInt(d.limbs.size()), RANDOM.nextBoolean() ? 1 : -1, strength, 0, 0, 0, 0};
        int got = x.string(f, s[0], s[1], s[2]);
        Due.is("string", got, d.strings.size() == 8 ? -1 : d.strings.size());
        if (d.strings.size() < 8) {
            d.strings.add(s);
        }
    }

    private static void place(PuppetBridge x, int f, Doll d) {
        d.bar = RANDOM.nextInt(3000) - 1500;
        d.hip = d.bar;
        d.lift = RANDOM.nextInt(3) == 0 ? 0 : RANDOM.nextInt(4000);
        d.placed = d.lift;
        Due.yes("place", x.place(f, d.bar, d.lift));
    }

    private static void pull(PuppetBridge x, int f, Doll d, boolean slippery) {
        int s = RANDOM.nextInt(8);
        int v = RANDOM.nextInt(10);
        Due.is("pull", x.pull(f, s, v) ? 1 : 0, s < d.strings.size() ? 1 : 0);
        if (s < d.strings.size()) {
            d.change(slippery, () -> {
                d.strings.get(s)[4] = v;
                d.move(d.strings.get(s), v);
            });
        }
    }

    private static void mend(PuppetBridge x, int f, Doll d, boolean slippery) {
        int s = RANDOM.nextInt(8);
        boolean broken = RANDOM.nextBoolean();
        Due.is("mend", x.mend(f, s, broken) ? 1 : 0, s < d.strings.size() ? 1 : 0);
        if (s < d.strings.size()) {
            d.change(slippery, () -> {
                d.strings.get(s)[6] = broken ? 1 : 0;
                d.strings.get(s)[5] = broken ? d.strings.get(s)[5] : 0;
            });
        }
    }

    private static void set(PuppetBridge x, Show show) {
        show.rate = 1 + RANDOM.nextInt(9);
        show.near = RANDOM.nextInt(400);
        show.slippery = RANDOM.nextInt(3) == 0;
        x.set(0, show.rate);
        x.set(1, show.near);
        x.set(2, show.slippery ? 1 : 0);
    }

    private static void score(PuppetBridge x, int f, Doll d) {
        String text = shortText(d.strings.size());
        List<String> into = new ArrayList<>(d.beats);
        int want = new Reader(text, d.strings.size()).answer(into);
        Due.is("score of \"" + text + "\"", Due.score(x, f, text), want);
        d.beats = into;
    }

    private static void again(PuppetBridge x, Show show) {
        Due.is("again", x.again(), show.beat);
        show.beat = 0;
        for (Doll d : show.dolls) {
            d.lift = d.placed;
            d.hip = d.bar;
            for (int[] s : d.strings) {
                for (int k = 3; k < 7; k++) {
                    s[k] = 0;
                }
            }
        }
        for (int a = 0; a < 4; a++) {
            java.util.Arrays.fill(show.met[a], 0);
            java.util.Arrays.fill(show.together[a], false);
        }
    }

    private static void play(PuppetBridge x, Show show) {
        int n = RANDOM.nextInt(6);
        int[][] foreseen = new int[4][4];
        for (int a = 0; a < show.dolls.size() && n > 0; a++) {
            for (int b = 0; b < a; b++) {
                foreseen[a][b] = x.meeting(a, b, n);
            }
        }
        int[][] first = new int[4][4];
        for (int k = 0; k < n; k++) {
            show.play();
            for (int a = 0; a < show.dolls.size(); a++) {
                for (int b = 0; b < a; b++) {
                    first[a][b] = first[a][b] == 0 && show.touch(a, b) ? k + 1 : first[a][b];
                }
            }
        }
        for (int a = 0; a < show.dolls.size() && n > 0; a++) {
            for (int b = 0; b < a; b++) {
                Due.is("meeting", foreseen[a][b], first[a][b] - 1);
            }
        }
        Due.is("play", x.play(n), show.beat);
    }

    private static void compare(PuppetBridge x, Show show) {
        for (int f = 0; f < show.dolls.size(); f++) {
            Doll d = show.dolls.get(f);
            int bits = 0;
            for (int s = 0; s < d.strings.size(); s++) {
                int[] t = d.strings.get(s);
                bits |= t[6] << s;
                int[] want = {t[3], t[5], t[6], t[4], t[0]};
                for (int what = 0; what < 5; what++) {
                    Due.is("pulled " + what, x.pulled(f, s, what), want[what]);
                }
            }
            int[] want = {d.limbs.size(), d.strings.size(), d.hip, d.y(), d.y() - d.lift, d.stands(), d.lift,
                d.beats.size(), bits};
            for (int what = 0; what < want.length; what++) {
                Due.is("of " + what, x.of(f, what), want[what]);
            }
            for (int k = 0; k < d.limbs.size(); k++) {
                Due.is("at 0", x.at(f, k, 0), d.heading(k));
                Due.is("at 1", x.at(f, k, 1), d.hip + d.point(k + 1)[0]);
                Due.is("at 2", x.at(f, k, 2), d.y() + d.point(k + 1)[1]);
            }
            for (int g = 0; g < f; g++) {
                Due.is("met", x.met(g, f), show.met[f][g]);
                Due.is("touch", x.touch(f, g), show.touch(f, g) ? 1 : 0);
            }
        }
    }
}
