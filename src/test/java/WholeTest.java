import java.util.List;
import java.util.NoSuchElementException;
import java.util.Random;
import java.util.function.LongSupplier;

/** Runs of 512 calls of all kinds in any order, each answer against a second telling of the whole document. */
public final class WholeTest {
    private static final Random RANDOM = new Random(29);
    private static final int RUNS = 400;

    private final PuppetBridge x = new PuppetBridge();
    private final Telling due = new Telling();
    private final int run;
    private int calls;

    private WholeTest(int run) {
        this.run = run;
    }

    public static void main(String[] args) {
        matrices();
        for (int run = 0; run < RUNS; run++) {
            new WholeTest(run).go();
        }
        Due.finish("WholeTest");
    }

    /** That the second telling's own matrices keep the three rules of term 3, and tell what is not alike. */
    private static void matrices() {
        for (int i = 1; i <= 4; i++) {
            Due.yes("contraries", Braids.isNone(List.of(i, -i)) && Braids.isNone(List.of(-i, i)));
            Due.no("a pass is none", Braids.isNone(List.of(i)));
            Due.no("two are none", Braids.isNone(List.of(i, i)));
            for (int j = 1; j <= 4; j++) {
                boolean far = Math.abs(i - j) != 1;
                Due.is("changed " + i + " " + j, Braids.isNone(List.of(i, j, -i, -j)) ? 1 : 0, far ? 1 : 0);
                boolean beside = Math.abs(i - j) <= 1;
                Due.is("turned " + i + " " + j, Braids.isNone(List.of(i, j, i, -j, -i, -j)) ? 1 : 0, beside ? 1 : 0);
                Due.is("mixed " + i + " " + j, Braids.isNone(List.of(i, -j, i, j, -i, j)) ? 1 : 0, 0);
            }
        }
    }

    private void go() {
        int mood = run % 5;
        for (calls = 0; calls < 512;) {
            int kind = RANDOM.nextInt(20);
            if (calls < 60 && kind < 12 || kind < 2) {
                build();
            } else if (kind < (mood == 1 ? 4 : 12)) {
                show();
            } else if (kind < (mood == 1 ? 16 : 14)) {
                bridge();
            } else if (kind < 17) {
                wishes();
            } else {
                ask();
            }
        }
    }

    private void same(String call, LongSupplier got, long want) {
        calls++;
        long answer;
        try {
            answer = got.getAsLong();
        } catch (NoSuchElementException e) {
            answer = Telling.THROWN;
        }
        Due.is("run " + run + ", call " + calls + ": " + call, answer, want);
    }

    private static long flag(boolean b) {
        return b ? 1 : 0;
    }

    /** Mostly from least to most, seldom beside it or far out. */
    private static int some(int least, int most) {
        int kind = RANDOM.nextInt(60);
        if (kind == 0) {
            return least - 1;
        } else if (kind == 1) {
            return most + 1;
        } else if (kind == 2) {
            return RANDOM.nextInt();
        }
        return kind < 8 ? least : kind < 14 ? most : least + RANDOM.nextInt(most - least + 1);
    }

    private int aFigure() {
        return some(0, Math.max(0, x.count(0) - 1));
    }

    private int aLimb(int figure) {
        return some(0, figure >= 0 && figure < x.count(0) ? x.of(figure, 0) - 1 : 0);
    }

    private int aString(int figure) {
        return some(0, figure >= 0 && figure < x.count(0) ? Math.max(0, x.of(figure, 1) - 1) : 0);
    }

    private void build() {
        int f = aFigure();
        int a = some(1, RANDOM.nextBoolean() ? 20 : 3);
        int b = some(0, 15);
        int c = some(0, 8);
        switch (RANDOM.nextInt(7)) {
            case 0:
                same("figure(" + a + ", " + b + ", " + c + ")", () -> x.figure(a, b, c), due.figure(a, b, c));
                break;
            case 1: case 2: {
                int on = aLimb(f);
                int end = some(0, 1);
                same("limb(" + f + ", " + on + ", " + end + ", " + a + ", " + b + ", " + c + ")",
                    () -> x.limb(f, on, end, a, b, c), due.limb(f, on, end, a, b, c));
                break;
            }
            case 3: case 4: {
                int limb = aLimb(f);
                int side = RANDOM.nextInt(30) == 0 ? some(-3, 3) : RANDOM.nextBoolean() ? 1 : -1;
                int strength = some(1, RANDOM.nextBoolean() ? 999 : 25);
                same("string(" + f + ", " + limb + ", " + side + ", " + strength + ")",
                    () -> x.string(f, limb, side, strength), due.string(f, limb, side, strength));
                break;
            }
            case 5: {
                int px = RANDOM.nextInt(6) == 0 ? some(-100000, 100000) : some(-200, 200) * (RANDOM.nextBoolean() ? 1 : 10);
                int lift = RANDOM.nextInt(3) == 0 ? some(0, 9999) : RANDOM.nextBoolean() ? 0 : some(0, 2500);
                same("place(" + f + ", " + px + ", " + lift + ")", () -> flag(x.place(f, px, lift)), due.place(f, px, lift));
                break;
            }
            default: {
                int what = some(0, 2);
                int v = what == 0 ? some(1, 9) : what == 1 ? some(0, RANDOM.nextBoolean() ? 2000 : 300) : some(0, 1);
                same("set(" + what + ", " + v + ")", () -> x.set(what, v), due.set(what, v));
            }
        }
    }

    private void show() {
        int f = aFigure();
        int g = aFigure();
        switch (RANDOM.nextInt(9)) {
            case 0: case 1: {
                int s = aString(f);
                int v = some(0, 9);
                same("pull(" + f + ", " + s + ", " + v + ")", () -> flag(x.pull(f, s, v)), due.pull(f, s, v));
                break;
            }
            case 2: {
                int s = aString(f);
                boolean broken = RANDOM.nextBoolean();
                same("mend(" + f + ", " + s + ", " + broken + ")", () -> flag(x.mend(f, s, broken)), due.mend(f, s, broken));
                break;
            }
            case 3:
                tell(f);
                break;
            case 4: case 5: {
                int n = RANDOM.nextInt(4) == 0 ? some(0, 100) : some(0, 6);
                same("play(" + n + ")", () -> x.play(n), due.play(n));
                break;
            }
            case 6:
                if (RANDOM.nextInt(4) == 0) {
                    same("again()", x::again, due.again());
                }
                break;
            case 7: {
                int n = some(1, RANDOM.nextBoolean() ? 100 : 8);
                same("meeting(" + f + ", " + g + ", " + n + ")", () -> x.meeting(f, g, n), due.meeting(f, g, n));
                break;
            }
            default:
                same("met(" + f + ", " + g + ")", () -> x.met(f, g), due.met(f, g));
                same("touch(" + f + ", " + g + ")", () -> x.touch(f, g), due.touch(f, g));
        }
    }

    private static String beat(int strings, int depth) {
        if (depth < 4 && RANDOM.nextInt(5) == 0) {
            return "(" + beats(strings, depth + 1) + ")*" + (2 + RANDOM.nextInt(RANDOM.nextBoolean() ? 2 : 8));
        }
        if (RANDOM.nextInt(5) == 0) {
            return ".";
        }
        StringBuilder b = new StringBuilder();
        for (int n = RANDOM.nextInt(3); n >= 0; n--) {
            int kind = RANDOM.nextInt(strings + 2);
            b.append(kind < strings ? (char) ('a' + kind) : kind == strings ? '+' : '-').append(RANDOM.nextInt(10));
            b.append(n > 0 ? "," : "");
        }
        return b.toString();
    }

    private static String beats(int strings, int depth) {
        StringBuilder b = new StringBuilder(beat(strings, depth));
        for (int n = RANDOM.nextInt(depth == 0 ? 8 : 3); n > 0; n--) {
            b.append(';').append(beat(strings, depth));
        }
        return b.toString();
    }

    /** A text that is a score, or nearly one. */
    private void tell(int f) {
        int strings = f >= 0 && f < x.count(0) ? x.of(f, 1) : 0;
        StringBuilder b = new StringBuilder(beats(strings, 0));
        if (RANDOM.nextInt(3) == 0) {
            int at = RANDOM.nextInt(b.length());
            char sign = RANDOM.nextInt(4) == 0 ? (char) RANDOM.nextInt(256) : "abhi09+-.,;()*2".charAt(RANDOM.nextInt(15));
            switch (RANDOM.nextInt(3)) {
                case 0: b.setCharAt(at, sign); break;
                case 1: b.insert(at, sign); break;
                default: b.deleteCharAt(at);
            }
        }
        tell(f, b.toString(), RANDOM.nextInt(12) == 0 ? some(0, 100) : b.length());
    }

    private void tell(int f, String b, int n) {
        for (int i = 0; i < b.length(); i += 4) {
            int v = 0;
            for (int k = i; k < i + 4; k++) {
                v = v << 8 | (k < b.length() ? b.charAt(k) : RANDOM.nextInt(256));
            }
            int four = v;
            same("sign(" + four + ")", () -> x.sign(four), due.sign(four));
        }
        same("end(" + n + ")", () -> flag(x.end(n)), due.end(n));
        same("score(" + f + ") of " + b, () -> x.score(f), due.score(f));
    }

    private void bridge() {
        int i = some(1, x.count(2) - 1) * (RANDOM.nextBoolean() ? 1 : -1);
        int n = some(0, x.count(2) - 1);
        int m = some(0, x.count(2) - 1);
        switch (RANDOM.nextInt(14)) {
            case 0:
                if (RANDOM.nextInt(3) == 0) {
                    int bars = RANDOM.nextBoolean() ? 5 : some(2, 5);
                    same("bars(" + bars + ")", () -> flag(x.bars(bars)), due.bars(bars));
                }
                break;
            case 1: case 2: case 3: case 11: case 12:
                same("pass(" + i + ")", () -> x.pass(i), due.pass(i));
                break;
            case 4: case 5:
                same("back()", () -> flag(x.back()), due.back());
                break;
            case 6:
                same("bar(" + n + ")", () -> x.bar(n), due.bar(n));
                same("wound(" + n + ", " + m + ")", () -> x.wound(n, m), due.wound(n, m));
                break;
            case 7:
                same("free()", x::free, due.free());
                break;
            case 8: {
                int k = some(0, x.count(3));
                same("alike(" + k + ")", () -> x.alike(k), due.alike(k));
                break;
            }
            case 9:
                same("undo()", x::undo, due.undo());
                for (int k = 0; k <= x.count(6); k++) {
                    row(k);
                }
                break;
            case 10:
                turned();
                break;
            default:
                follow();
        }
    }

    /** Passes that are alike to none, by the third rule, put behind what there is. */
    private void turned() {
        if (x.count(2) > 2) {
            int low = 1 + RANDOM.nextInt(x.count(2) - 2);
            int sign = RANDOM.nextBoolean() ? 1 : -1;
            int[] none = {low, low + 1, low, -low - 1, -low, -low - 1};
            for (int p : none) {
                same("pass(" + sign * p + ")", () -> x.pass(sign * p), due.pass(sign * p));
            }
            same("free()", x::free, due.free());
        }
    }

    /** What undo() tells frees the strings. */
    private void follow() {
        long n = due.undo();
        same("undo()", x::undo, n);
        for (int k = 0; k < n; k++) {
            int p = (int) due.row(k);
            same("row(" + k + ")", () -> x.row(0), due.row(0));
            same("pass(" + p + ")", () -> x.pass(p), due.pass(p));
        }
        same("free()", x::free, due.free());
    }

    private void row(int k) {
        same("row(" + k + ")", () -> x.row(k), due.row(k));
    }

    private void wishes() {
        int f = aFigure();
        int limb = aLimb(f);
        switch (RANDOM.nextInt(9)) {
            case 0: case 1: {
                int bits = some(0, 15);
                same("scene(" + bits + ")", () -> x.scene(bits), due.scene(bits));
                break;
            }
            case 2:
                if (RANDOM.nextInt(3) == 0) {
                    same("clear()", x::clear, due.clear());
                }
                break;
            case 3: {
                int p = some(1, 3);
                same("cast(" + p + ")", () -> x.cast(p), due.cast(p));
                row(some(0, Math.max(0, x.count(6) - 1)));
                row(some(0, Math.max(0, x.count(6) - 1)));
                break;
            }
            case 4: {
                int bits = RANDOM.nextInt(6) == 0 ? some(1, 255) : 1 << aString(f) | 1 << aString(f) | 1 << aString(f);
                int far = RANDOM.nextInt(3) == 0 ? 1000000 : 3000;
                int px = some(-far, far);
                int py = some(-far, far);
                same("reach(" + f + ", " + limb + ", " + bits + ", " + px + ", " + py + ")",
                    () -> x.reach(f, limb, bits, px, py), due.reach(f, limb, bits, px, py));
                for (int k = 0; k <= 3; k++) {
                    row(k);
                }
                break;
            }
            case 5:
                tale(f, limb);
                break;
            case 6:
                tales(f);
                break;
            default:
                same("broken(" + f + ")", () -> x.broken(f), due.broken(f));
                row(0);
        }
    }

    /** The heading of a limb behind a beat, were just these strings broken; any, where there is none such. */
    private int headingWith(int broken, int f, int beat, int limb) {
        if (f < 0 || f >= due.dolls.size() || limb < 0 || limb >= x.of(f, 0)) {
            return some(0, 15);
        }
        Telling.Doll d = due.dolls.get(f).copy();
        for (int s = 0; s < d.cords.size(); s++) {
            Telling.Cord c = d.cords.get(s);
            c.pull = 0;
            c.wish = 0;
            c.strength = 1000000;
            c.broken = (broken >> s & 1) == 1;
        }
        for (int b = 0; b <= beat && b < 80; b++) {
            d.items(b);
            d.draw(due.rate());
        }
        return d.heading(limb);
    }

    private void see(int f, int beat, int limb, int heading) {
        same("seen(" + f + ", " + beat + ", " + limb + ", " + heading + ")",
            () -> x.seen(f, beat, limb, heading), due.seen(f, beat, limb, heading));
    }

    private void tale(int f, int limb) {
        int beat = RANDOM.nextBoolean() ? some(0, 79) : some(0, 8);
        see(f, beat, limb, RANDOM.nextInt(5) == 0 ? some(0, 15) : headingWith(RANDOM.nextInt(256), f, beat, limb));
    }

    /** Some tell-tales of one and the same set of broken strings, which may not be the only one that explains them. */
    private void tales(int f) {
        same("clear()", x::clear, due.clear());
        StringBuilder all = new StringBuilder("+0");
        for (int s = 0; f >= 0 && f < x.count(0) && s < x.of(f, 1); s++) {
            all.append(RANDOM.nextInt(4) == 0 ? ';' : ',').append((char) ('a' + s)).append(1 + RANDOM.nextInt(3));
        }
        tell(f, all.toString(), all.length());
        int broken = RANDOM.nextInt(256);
        for (int n = RANDOM.nextInt(5); n >= 0; n--) {
            int beat = RANDOM.nextInt(RANDOM.nextBoolean() ? 80 : 6);
            int limb = aLimb(f);
            see(f, beat, limb, headingWith(broken, f, beat, limb));
        }
        same("broken(" + f + ")", () -> x.broken(f), due.broken(f));
        row(0);
        row(1);
    }

    private void ask() {
        int f = aFigure();
        int limb = aLimb(f);
        int string = aString(f);
        int what = some(0, 8);
        switch (RANDOM.nextInt(5)) {
            case 0: case 1:
                same("of(" + f + ", " + what + ")", () -> x.of(f, what), due.of(f, what));
                break;
            case 2: {
                int w = some(0, 2);
                same("at(" + f + ", " + limb + ", " + w + ")", () -> x.at(f, limb, w), due.at(f, limb, w));
                break;
            }
            case 3: {
                int w = some(0, 4);
                same("pulled(" + f + ", " + string + ", " + w + ")", () -> x.pulled(f, string, w), due.pulled(f, string, w));
                break;
            }
            default:
                same("count(" + what + ")", () -> x.count(what), due.count(what));
        }
    }
}
