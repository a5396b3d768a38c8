import java.util.NoSuchElementException;
import java.util.function.LongSupplier;

/** Counts answers that are not the due ones, and helps to tell texts to a bridge. */
final class Due {
    private static int asked;
    private static int wrong;

    private Due() {
    }

    static void is(String call, long got, long want) {
        asked++;
        if (got != want) {
            wrong++;
            if (wrong <= 40) {
                System.out.println(call + " answered " + got + ", due is " + want);
            }
        }
    }

    static void yes(String call, boolean got) {
        is(call, got ? 1 : 0, 1);
    }

    static void no(String call, boolean got) {
        is(call, got ? 1 : 0, 0);
    }

    static void none(String call, LongSupplier asks) {
        int thrown = 0;
        try {
            asks.getAsLong();
        } catch (NoSuchElementException e) {
            thrown = 1;
        }
        is(call + " throws NoSuchElementException", thrown, 1);
    }

    /** The ROW is just these numbers. */
    static void row(String call, PuppetBridge x, int... want) {
        is(call + ": numbers of the ROW", x.count(6), want.length);
        for (int i = 0; i < want.length && i < x.count(6); i++) {
            is(call + ": row(" + i + ")", x.row(i), want[i]);
        }
        none(call + ": row(" + want.length + ")", () -> x.row(want.length));
        none(call + ": row(-1)", () -> x.row(-1));
    }

    static void tell(PuppetBridge x, String text) {
        x.end(0);
        for (int i = 0; i < text.length(); i += 4) {
            int v = 0;
            for (int k = 0; k < 4; k++) {
                v = v << 8 | (i + k < text.length() ? text.charAt(i + k) & 255 : 0);
            }
            x.sign(v);
        }
        x.end(text.length());
    }

    static int score(PuppetBridge x, int figure, String text) {
        tell(x, text);
        return x.score(figure);
    }

    static void finish(String name) {
        System.out.println(name + ": " + asked + " asked, " + wrong + " wrong");
        if (wrong != 0 || asked == 0) {
            System.exit(1);
        }
    }
}
