import java.util.NoSuchElementException;
import java.util.function.ToLongFunction;

/**
 * Refused calls change nothing, and calls that only ask neither. Two bridges are made alike; one of them gets the call;
 * then both are asked and played on, so that also what no call tells at once (THE TEXT, WISHES, BAR, who TOUCHED,
 * SCORES, SCENES, TELL-TALES) would be seen.
 */
public final class RefusedTest {
    private static final int LEAST = Integer.MIN_VALUE;
    private static final int GREATEST = Integer.MAX_VALUE;
    private static final int THROWN = -7777;
    private static int calls;

    public static void main(String[] args) {
        for (boolean full : new boolean[] {false, true}) {
            figures(full);
            strings(full);
            asked(full);
            scores(full);
            theBridge(full);
            handsAndWishes(full);
            onlyAsked(full);
            onlyTheRow(full);
        }
        whatIsFull();
        Due.yes("calls were tried", calls > 300);
        Due.finish("RefusedTest");
    }

    private static long flag(boolean b) {
        return b ? 1 : -1;
    }

    private static PuppetBridge made(boolean full) {
        PuppetBridge x = new PuppetBridge();
        int figures = full ? 4 : 2;
        for (int f = 0; f < figures; f++) {
            x.figure(10 - f, 8, 8);
            for (int k = 1; k < (full ? 8 : 2); k++) {
                x.limb(f, k - 1, k % 2, 2 + k, 5 + k, 8);
            }
            for (int s = 0; s < (full ? 8 : 3); s++) {
                x.string(f, s % 2, s % 3 == 0 ? 1 : -1, s == 1 ? 12 : 500);
            }
            x.place(f, 40 * f, 300 * f);
            Due.score(x, f, "(a3,+2;b" + (f + 4) + ",c9;.)*4;a9,-4;(a1;c2)*9");
        }
        x.set(0, 2);
        x.set(1, 700);
        x.play(4);
        x.pull(0, 2, 7);
        x.mend(1, 0, true);
        bridgeAndHands(x, full);
        if (full) {
            for (int k = 0; k < 9; k++) {
                x.play(100);
            }
            x.play(96);
        }
        x.cast(3);
        Due.tell(x, full ? "a1;".repeat(33) + "." : "(a1;.)*3;+2");
        return x;
    }

    private static void bridgeAndHands(PuppetBridge x, boolean full) {
        x.bars(4);
        int[] passes = {1, -2, 3, 2, 2};
        for (int k = 0; k < (full ? 40 : 5); k++) {
            x.pass(passes[k % 5]);
        }
        for (int k = 0; k < (full ? 8 : 3); k++) {
            x.scene(15 - 3 * k % 16);
        }
        for (int k = 0; k < (full ? 20 : 3); k++) {
            x.seen(k % 2, 2 * k, 0, 9 + k % 3);
        }
    }

    private static void tell(StringBuilder b, PuppetBridge x) {
        for (int what = 0; what < 8; what++) {
            b.append(x.count(what)).append(' ');
        }
        for (int f = 0; f < x.count(0); f++) {
            for (int what = 0; what < 9; what++) {
                b.append(x.of(f, what)).append(' ');
            }
            for (int k = 0; k < x.of(f, 0); k++) {
                b.append(x.at(f, k, 0)).append(' ').append(x.at(f, k, 1)).append(' ').append(x.at(f, k, 2)).append(' ');
            }
            for (int s = 0; s < x.of(f, 1); s++) {
                for (int what = 0; what < 5; what++) {
                    b.append(x.pulled(f, s, what)).append(' ');
                }
            }
            for (int g = 0; g < f; g++) {
                b.append(x.met(f, g)).append(' ').append(x.touch(f, g)).append(' ');
            }
        }
        for (int k = 0; k < x.count(2); k++) {
            b.append(x.bar(k)).append(' ').append(x.wound(0, k)).append(' ').append(x.wound(k, 1)).append(' ');
        }
        for (int i = 0; i <= x.count(3); i++) {
            b.append(x.alike(i)).append(' ');
        }
        row(b, x);
    }

    private static void row(StringBuilder b, PuppetBridge x) {
        for (int i = 0; i < x.count(6); i++) {
            b.append(x.row(i)).append(' ');
        }
        b.append('\n');
    }

    /** All that can be asked, then all that comes of playing, telling, unwinding and casting on. */
    private static String future(PuppetBridge x) {
        StringBuilder b = new StringBuilder();
        tell(b, x);
        for (int p = 1; p <= 3; p++) {
            b.append("cast ").append(x.cast(p)).append(' ');
            row(b, x);
        }
        for (int f = 0; f < x.count(0); f++) {
            b.append("broken ").append(x.broken(f)).append(' ');
            row(b, x);
            b.append("meeting ").append(x.meeting(f, 0, 4)).append('\n');
        }
        for (int k = 0; k < 3; k++) {
            b.append("play ").append(x.play(1)).append('\n');
            tell(b, x);
        }
        b.append("again ").append(x.again()).append('\n');
        tell(b, x);
        b.append("end ").append(x.end(Math.min(59, x.count(7)) - 1)).append(' ').append(x.sign('7' << 24));
        b.append(' ').append(x.end(x.count(7) - 3)).append(" score ").append(x.score(0)).append('\n');
        for (int k = 0; k < 4; k++) {
            b.append("play ").append(x.play(5)).append('\n');
            tell(b, x);
        }
        for (int k = 0; k < 41; k++) {
            b.append("undo ").append(x.undo()).append(' ').append(x.free()).append(' ').append(x.back()).append(' ');
            row(b, x);
        }
        b.append(x.set(0, 1)).append(' ').append(x.set(1, 1)).append(' ').append(x.set(2, 1)).append('\n');
        b.append(x.limb(0, 0, 0, 1, 1, 1)).append(' ').append(x.string(0, 0, 1, 1)).append(' ');
        b.append(x.scene(1)).append(' ').append(x.seen(0, 0, 0, 0)).append(' ').append(x.clear()).append('\n');
        b.append(x.figure(1, 1, 1)).append('\n');
        tell(b, x);
        return b.toString();
    }

    private static long answer(PuppetBridge x, ToLongFunction<PuppetBridge> call) {
        try {
            return call.applyAsLong(x);
        } catch (NoSuchElementException e) {
            return THROWN;
        }
    }

    private static void unchanged(String call, boolean full, ToLongFunction<PuppetBridge> does) {
        calls++;
        PuppetBridge x = made(full);
        PuppetBridge y = made(full);
        answer(y, does);
        Due.yes(call + " changes nothing", future(x).equals(future(y)));
    }

    private static void refused(String call, boolean full, ToLongFunction<PuppetBridge> does) {
        Due.is(call + " is refused", answer(made(full), does), -1);
        unchanged(call, full, does);
    }

    private static void thrown(String call, boolean full, ToLongFunction<PuppetBridge> does) {
        Due.is(call + " throws", answer(made(full), does), THROWN);
        unchanged(call, full, does);
    }

    private static int[] outside(int low, int high) {
        return new int[] {low - 1, high + 1, LEAST, GREATEST};
    }

    private static void figures(boolean full) {
        for (int v : outside(1, 20)) {
            refused("figure LENGTH", full, x -> x.figure(v, 0, 0));
            refused("limb LENGTH", full, x -> x.limb(0, 0, 1, v, 0, 0));
        }
        for (int v : outside(0, 15)) {
            refused("figure REST", full, x -> x.figure(1, v, 0));
            refused("limb REST", full, x -> x.limb(0, 0, 1, 1, v, 0));
        }
        for (int v : outside(0, 8)) {
            refused("figure MOST", full, x -> x.figure(1, 0, v));
            refused("limb MOST", full, x -> x.limb(0, 0, 1, 1, 0, v));
        }
        for (int v : outside(0, 1)) {
            refused("limb END", full, x -> x.limb(0, 0, v, 1, 0, 0));
        }
        for (int v : outside(0, full ? 7 : 1)) {
            refused("limb on", full, x -> x.limb(0, v, 0, 1, 0, 0));
            refused("string LIMB", full, x -> x.string(0, v, 1, 1));
            refused("seen LIMB", full, x -> x.seen(0, 0, v, 0));
        }
        for (int v : outside(0, full ? 3 : 1)) {
            refused("limb FIGURE", full, x -> x.limb(v, 0, 0, 1, 0, 0));
            refused("string FIGURE", full, x -> x.string(v, 0, 1, 1));
            refused("place FIGURE", full, x -> flag(x.place(v, 1, 1)));
            refused("pull FIGURE", full, x -> flag(x.pull(v, 0, 1)));
            refused("mend FIGURE", full, x -> flag(x.mend(v, 0, true)));
            refused("seen FIGURE", full, x -> x.seen(v, 0, 0, 0));
            refused("broken FIGURE", full, x -> x.broken(v));
        }
    }

    private static void strings(boolean full) {
        for (int v : new int[] {0, 2, -2, LEAST, GREATEST}) {
            refused("string SIDE", full, x -> x.string(0, 0, v, 1));
        }
        for (int v : outside(1, 999)) {
            refused("string STRENGTH", full, x -> x.string(0, 0, 1, v));
        }
        for (int v : outside(-100000, 100000)) {
            refused("place x", full, x -> flag(x.place(1, v, 5)));
        }
        for (int v : outside(0, 9999)) {
            refused("place LIFT", full, x -> flag(x.place(1, 5, v)));
        }
        for (int v : outside(0, full ? 7 : 2)) {
            refused("pull STRING", full, x -> flag(x.pull(0, v, 1)));
            refused("mend STRING", full, x -> flag(x.mend(0, v, false)));
            refused("mend STRING", full, x -> flag(x.mend(0, v, true)));
        }
        for (int v : outside(0, 9)) {
            refused("pull v", full, x -> flag(x.pull(0, 0, v)));
        }
        for (int v : outside(1, 9)) {
            refused("set RATE", full, x -> x.set(0, v));
        }
        for (int v : outside(0, 2000)) {
            refused("set NEAR", full, x -> x.set(1, v));
        }
        for (int v : outside(0, 1)) {
            refused("set SLIPPERY", full, x -> x.set(2, v));
        }
        for (int v : outside(0, 2)) {
            refused("set what", full, x -> x.set(v, 1));
        }
    }

    private static void asked(boolean full) {
        for (int v : outside(0, full ? 3 : 1)) {
            thrown("of FIGURE", full, x -> x.of(v, 0));
            thrown("at FIGURE", full, x -> x.at(v, 0, 0));
            refused("pulled FIGURE", full, x -> x.pulled(v, 0, 0));
            refused("met", full, x -> x.met(v, 0));
            refused("touch", full, x -> x.touch(0, v));
            refused("meeting", full, x -> x.meeting(0, v, 1));
        }
        for (int v : outside(0, 8)) {
            thrown("of what", full, x -> x.of(0, v));
        }
        for (int v : outside(0, full ? 7 : 1)) {
            thrown("at LIMB", full, x -> x.at(0, v, 0));
        }
        for (int v : outside(0, 2)) {
            thrown("at what", full, x -> x.at(0, 0, v));
        }
        for (int v : outside(0, full ? 7 : 2)) {
            refused("pulled STRING", full, x -> x.pulled(0, v, 0));
        }
        for (int v : outside(0, 4)) {
            refused("pulled what", full, x -> x.pulled(0, 0, v));
        }
        for (int v : outside(0, 7)) {
            refused("count what", full, x -> x.count(v));
        }
        for (int v : outside(0, full ? 31 : 11)) {
            thrown("row", full, x -> x.row(v));
        }
    }

    private static void scores(boolean full) {
        for (int v : outside(0, full ? 100 : 11)) {
            refused("end", full, x -> flag(x.end(v)));
        }
        for (int v : outside(0, 100)) {
            refused("play n", full, x -> x.play(v));
        }
        for (int v : outside(1, 100)) {
            refused("meeting n", full, x -> x.meeting(0, 1, v));
        }
        refused("met one alone", full, x -> x.met(1, 1));
        refused("touch one alone", full, x -> x.touch(1, 1));
        refused("meeting one alone", full, x -> x.meeting(1, 1, 1));
    }

    private static void theBridge(boolean full) {
        for (int v : outside(2, 5)) {
            refused("bars", full, x -> flag(x.bars(v)));
        }
        for (int v : new int[] {0, 4, -4, 5, -5, LEAST, GREATEST}) {
            refused("pass", full, x -> x.pass(v));
        }
        for (int v : outside(0, 3)) {
            refused("bar", full, x -> x.bar(v));
            Due.is("wound of none such", made(full).wound(0, v), -1000);
            Due.is("wound of none such", made(full).wound(v, 3), -1000);
            unchanged("wound", full, x -> x.wound(v, 0));
        }
        for (int v : outside(0, full ? 40 : 5)) {
            refused("alike", full, x -> x.alike(v));
        }
    }

    private static void handsAndWishes(boolean full) {
        for (int v : outside(0, 15)) {
            refused("scene", full, x -> x.scene(v));
            refused("seen HEADING", full, x -> x.seen(0, 0, 0, v));
        }
        for (int v : outside(0, 79)) {
            refused("seen BEAT", full, x -> x.seen(0, v, 0, 0));
        }
        for (int v : outside(1, 3)) {
            refused("cast", full, x -> x.cast(v));
        }
        refused("cast: there is none", full, x -> x.cast(1));
        for (int v : outside(0, full ? 3 : 1)) {
            thrown("reach FIGURE", full, x -> x.reach(v, 0, 4, 0, 0));
        }
        for (int v : outside(0, full ? 7 : 1)) {
            thrown("reach LIMB", full, x -> x.reach(0, v, 4, 0, 0));
        }
        for (int v : new int[] {0, -1, full ? 256 : 8, full ? 15 : 9, LEAST, GREATEST}) {
            thrown("reach bits", full, x -> x.reach(0, 0, v, 0, 0));
        }
        thrown("reach by a BROKEN one", full, x -> x.reach(1, 0, 1, 0, 0));
        for (int v : outside(-1000000, 1000000)) {
            thrown("reach x", full, x -> x.reach(0, 0, 4, v, 0));
            thrown("reach y", full, x -> x.reach(0, 0, 4, 0, v));
        }
    }

    private static void whatIsFull() {
        refused("a fifth FIGURE", true, x -> x.figure(1, 0, 0));
        refused("a ninth LIMB", true, x -> x.limb(0, 0, 0, 1, 0, 0));
        refused("a ninth STRING", true, x -> x.string(0, 0, 1, 1));
        refused("a sign behind 100", true, x -> x.sign(0x2E2E2E2E));
        refused("BEAT 1001", true, x -> x.play(1));
        refused("meeting above 1000", true, x -> x.meeting(0, 1, 1));
        refused("a 41st PASS", true, x -> x.pass(1));
        refused("a ninth SCENE", true, x -> x.scene(0));
        refused("a 21st TELL-TALE", true, x -> x.seen(0, 0, 0, 0));
        refused("undo: more than 6", true, x -> x.undo());
        Due.no("none to take back", new PuppetBridge().back());
    }

    private static void onlyAsked(boolean full) {
        unchanged("of", full, x -> x.of(1, 3) + x.of(0, 8));
        unchanged("at", full, x -> x.at(1, 1, 2));
        unchanged("pulled", full, x -> x.pulled(1, 1, 3));
        unchanged("met", full, x -> x.met(0, 1));
        unchanged("touch", full, x -> x.touch(0, 1));
        unchanged("meeting", full, x -> x.meeting(0, 1, 100));
        unchanged("meeting", full, x -> x.meeting(1, 0, 1));
        unchanged("count", full, x -> x.count(0) + x.count(7));
        unchanged("bar", full, x -> x.bar(3));
        unchanged("wound", full, x -> x.wound(0, 3));
        unchanged("free", full, x -> x.free());
        unchanged("alike", full, x -> x.alike(2));
        unchanged("row", full, x -> x.row(3));
        unchanged("play(0)", full, x -> x.play(0));
        unchanged("end of all signs", full, x -> flag(x.end(x.count(7))));
        unchanged("set to what it was", full, x -> x.set(0, 2) + x.set(1, 700) + x.set(2, 0));
        unchanged("pull to what it was", full, x -> flag(x.pull(0, 2, x.pulled(0, 2, 3))));
    }

    /** These change the ROW alone: behind another cast() all is as without them. */
    private static void onlyTheRow(boolean full) {
        unchanged("cast", full, x -> x.cast(2) + x.cast(3));
        unchanged("undo", full, x -> x.undo() + x.cast(3));
        unchanged("broken", full, x -> x.broken(0) + x.broken(1) + x.cast(3));
        unchanged("reach", full, x -> x.reach(0, 1, 4, 500, 500) + x.cast(3));
        unchanged("reach by three", full, x -> x.reach(0, 1, full ? 52 : 4, -500, 70) + x.cast(3));
    }
}
