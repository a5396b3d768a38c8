import java.util.NoSuchElementException;
import java.util.Random;

/** Any calls with any arguments: nothing but the named exception comes out, and a refused call changes nothing. */
public final class WildTest {
    private static final Random RANDOM = new Random(13);
    private static final int[] EDGES = {Integer.MIN_VALUE, Integer.MAX_VALUE, -1, 0, 1, 2, 3, 4, 5, 7, 8, 9, 15, 16, 20, 21,
        60, 79, 80, 99, 100, 101, 999, 1000, 9999, 10000, 100000, 1000000, -2, -3, -4, -1000000};

    public static void main(String[] args) {
        for (int run = 0; run < 400; run++) {
            wildRun(run);
        }
        Due.finish("WildTest");
    }

    private static int any() {
        return RANDOM.nextInt(3) > 0 ? RANDOM.nextInt(10) : EDGES[RANDOM.nextInt(EDGES.length)];
    }

    private static void wildRun(int run) {
        PuppetBridge x = new PuppetBridge();
        for (int i = 0; i < 250; i++) {
            String before = state(x);
            int kind = RANDOM.nextInt(34);
            long answer = 0;
            boolean refused = false;
            try {
                answer = call(x, kind);
                refused = answer == -1 && kind != 14;
            } catch (NoSuchElementException e) {
                Due.yes("only of, at, reach, row throw, not " + kind, kind == 9 || kind == 10 || kind == 30 || kind == 33);
                refused = true;
            }
            if (kind == 14) {
                Due.is("THE TEXT behind score(), which answered " + answer, x.count(7), 0);
            }
            if (refused || asksOnly(kind)) {
                Due.yes("kind " + kind + ", refused or only asked, changes nothing", before.equals(state(x)));
            }
        }
    }

    private static boolean asksOnly(int kind) {
        return kind >= 9 && kind <= 11 || kind >= 17 && kind <= 20 || kind >= 24 && kind <= 27 || kind == 33;
    }

    private static long flag(boolean b) {
        return b ? 1 : -1;
    }

    private static long call(PuppetBridge x, int kind) {
        switch (kind) {
            case 0: return x.figure(any(), any(), any());
            case 1: return x.limb(any(), any(), any(), any(), any(), any());
            case 2: return x.string(any(), any(), RANDOM.nextBoolean() ? 1 : any(), any());
            case 3: return x.limb(0, 0, 1, any(), any(), any());
            case 4: return x.string(0, any(), -1, any());
            case 5: return flag(x.place(any(), any(), any()));
            case 6: return flag(x.pull(any(), any(), any()));
            case 7: return flag(x.mend(any(), any(), RANDOM.nextBoolean()));
            case 8: return x.set(any(), any());
            case 9: x.of(any(), any()); return 0;
            case 10: x.at(any(), any(), any()); return 0;
            case 11: return x.pulled(any(), any(), any());
            case 12: return x.sign(RANDOM.nextBoolean() ? any() : RANDOM.nextInt());
            case 13: return flag(x.end(any()));
            case 14: return RANDOM.nextBoolean() ? x.score(any()) : Due.score(x, 0, "(a1,+2;.;b4)*3");
            case 15: return x.play(any());
            case 16: return x.again();
            case 17: return x.met(any(), any());
            case 18: return x.touch(any(), any());
            case 19: return x.meeting(any(), any(), any());
            case 20: return x.count(any());
            case 21: return RANDOM.nextInt(4) == 0 ? flag(x.bars(any())) : -1;
            case 22: return x.pass(RANDOM.nextBoolean() ? any() : -any());
            case 23: return flag(x.back());
            case 24: return x.bar(any());
            case 25: x.wound(any(), any()); return 0;
            case 26: return x.free();
            case 27: return x.alike(any());
            case 28: return x.undo();
            case 29: return RANDOM.nextInt(3) == 0 ? x.cast(any()) : x.scene(any());
            case 30: x.reach(any(), any(), any(), any(), any()); return 0;
            case 31: return x.seen(any(), any(), any(), any());
            case 32: return x.broken(any());
            default: x.row(any()); return 0;
        }
    }

    private static String state(PuppetBridge x) {
        StringBuilder b = new StringBuilder();
        for (int what = 0; what < 8; what++) {
            b.append(x.count(what)).append(' ');
        }
        for (int f = 0; f < x.count(0); f++) {
            for (int what = 0; what < 9; what++) {
                b.append(x.of(f, what)).append(' ');
            }
            for (int k = 0; k < x.of(f, 0); k++) {
                b.append(x.at(f, k, 0)).append(' ').append(x.at(f, k, 1)).append(' ').append(x.at(f, k, 2)).append(' ');
            }
            for (int s = 0; s < x.of(f, 1); s++) {
                for (int what = 0; what < 5; what++) {
                    b.append(x.pulled(f, s, what)).append(' ');
                }
            }
            for (int g = 0; g < f; g++) {
                b.append(x.met(f, g)).append(' ').append(x.touch(f, g)).append(' ');
            }
        }
        for (int k = 0; k < x.count(2); k++) {
            b.append(x.bar(k)).append(' ').append(x.wound(0, k)).append(' ');
        }
        b.append(x.free()).append(' ');
        for (int i = 0; i < x.count(6); i++) {
            b.append(x.row(i)).append(' ');
        }
        return b.toString();
    }
}
