/** Promises 1 to 11: figures, limbs, strings, places, pulls, mending, what they answer. */
public final class FiguresTest {
    private static final int[][] WAYS = {
        {0, 100}, {38, 92}, {71, 71}, {92, 38}, {100, 0}, {92, -38}, {71, -71}, {38, -92},
        {0, -100}, {-38, -92}, {-71, -71}, {-92, -38}, {-100, 0}, {-92, 38}, {-71, 71}, {-38, 92}};

    public static void main(String[] args) {
        newObject();
        figures();
        limbs();
        strings();
        places();
        headings();
        pulls();
        mending();
        settings();
        standing();
        holding();
        slipping();
        asking();
        Due.finish("FiguresTest");
    }

    private static void newObject() {
        PuppetBridge x = new PuppetBridge();
        int[] want = {0, 0, 2, 0, 0, 0, 0, 0};
        for (int what = 0; what < want.length; what++) {
            Due.is("new count(" + what + ")", x.count(what), want[what]);
        }
        Due.is("new set(0, 9)", x.set(0, 9), 9);
        Due.is("new set(1, 0)", x.set(1, 0), 0);
        Due.is("new set(2, 0)", x.set(2, 0), 0);
        Due.is("new bar(0)", x.bar(0), 0);
        Due.is("new bar(1)", x.bar(1), 1);
        Due.is("new free()", x.free(), 1);
        Due.row("new", x);
        Due.none("new of(0, 0)", () -> x.of(0, 0));
        Due.is("NONE", PuppetBridge.NONE, -1);
    }

    private static void figures() {
        PuppetBridge x = new PuppetBridge();
        int[][] wrong = {{0, 0, 0}, {21, 0, 0}, {-1, 0, 0}, {1, -1, 0}, {1, 16, 0}, {1, 0, -1}, {1, 0, 9}};
        for (int[] w : wrong) {
            Due.is("figure of wrong shape", x.figure(w[0], w[1], w[2]), -1);
        }
        Due.is("count(0)", x.count(0), 0);
        Due.is("figure(1, 0, 0)", x.figure(1, 0, 0), 0);
        Due.is("figure(20, 15, 8)", x.figure(20, 15, 8), 1);
        Due.is("figure(2, 2, 2)", x.figure(2, 2, 2), 2);
        Due.is("figure(3, 3, 3)", x.figure(3, 3, 3), 3);
        Due.is("a fifth figure", x.figure(3, 3, 3), -1);
        Due.is("count(0)", x.count(0), 4);
        Due.is("at(1, 0, 0)", x.at(1, 0, 0), 15);
        Due.is("at(1, 0, 1)", x.at(1, 0, 1), -760);
        Due.is("at(1, 0, 2)", x.at(1, 0, 2), 1840);
        Due.is("of(1, 5): on its HIP", x.of(1, 5), 0);
    }

    private static void limbs() {
        PuppetBridge x = new PuppetBridge();
        Due.is("limb of no figure", x.limb(0, 0, 0, 1, 1, 1), -1);
        x.figure(10, 0, 0);
        int[][] wrong = {{-1, 0, 0, 1, 1, 1}, {1, 0, 0, 1, 1, 1}, {0, -1, 0, 1, 1, 1}, {0, 1, 0, 1, 1, 1},
            {0, 0, -1, 1, 1, 1}, {0, 0, 2, 1, 1, 1}, {0, 0, 0, 0, 1, 1}, {0, 0, 0, 21, 1, 1}, {0, 0, 0, 1, -1, 1},
            {0, 0, 0, 1, 16, 1}, {0, 0, 0, 1, 1, -1}, {0, 0, 0, 1, 1, 9}};
        for (int[] w : wrong) {
            Due.is("limb of wrong shape", x.limb(w[0], w[1], w[2], w[3], w[4], w[5]), -1);
        }
        Due.is("limb on the end", x.limb(0, 0, 1, 3, 4, 0), 1);
        Due.is("its end's x", x.at(0, 1, 1), 300);
        Due.is("its end's y", x.at(0, 1, 2), 1000);
        Due.is("limb on the beginning", x.limb(0, 0, 0, 3, 12, 0), 2);
        Due.is("its end's x", x.at(0, 2, 1), -300);
        Due.is("its end's y", x.at(0, 2, 2), 0);
        Due.is("limb on the beginning of 1", x.limb(0, 1, 0, 2, 14, 0), 3);
        Due.is("its end's x", x.at(0, 3, 1), -142);
        Due.is("its end's y", x.at(0, 3, 2), 1142);
        Due.is("limb on the end of 3", x.limb(0, 3, 1, 1, 4, 0), 4);
        Due.is("its end's x", x.at(0, 4, 1), -42);
        for (int k = 5; k < 8; k++) {
            Due.is("limb " + k, x.limb(0, k - 1, k % 2, 1, 0, 0), k);
        }
        Due.is("a ninth limb", x.limb(0, 0, 0, 1, 0, 0), -1);
        Due.is("of(0, 0)", x.of(0, 0), 8);
    }

    private static void strings() {
        PuppetBridge x = new PuppetBridge();
        Due.is("string of no figure", x.string(0, 0, 1, 1), -1);
        x.figure(10, 0, 0);
        x.limb(0, 0, 1, 1, 0, 0);
        int[][] wrong = {{-1, 0, 1, 1}, {1, 0, 1, 1}, {0, -1, 1, 1}, {0, 2, 1, 1}, {0, 0, 0, 1}, {0, 0, 2, 1},
            {0, 0, -2, 1}, {0, 0, 1, 0}, {0, 0, 1, 1000}, {0, 0, 1, -5}};
        for (int[] w : wrong) {
            Due.is("string of wrong shape", x.string(w[0], w[1], w[2], w[3]), -1);
        }
        for (int s = 0; s < 8; s++) {
            Due.is("string " + s, x.string(0, s % 2, s < 4 ? 1 : -1, s == 0 ? 1 : 999), s);
            Due.is("its PULL", x.pulled(0, s, 0), 0);
            Due.is("its WEAR", x.pulled(0, s, 1), 0);
            Due.is("its BROKEN", x.pulled(0, s, 2), 0);
            Due.is("its WISH", x.pulled(0, s, 3), 0);
            Due.is("its LIMB", x.pulled(0, s, 4), s % 2);
        }
        Due.is("a ninth string", x.string(0, 0, 1, 1), -1);
        Due.is("of(0, 1)", x.of(0, 1), 8);
    }

    private static void places() {
        PuppetBridge x = new PuppetBridge();
        Due.no("place of no figure", x.place(0, 0, 0));
        x.figure(10, 8, 0);
        Due.no("x too far", x.place(0, 100001, 0));
        Due.no("x too far", x.place(0, -100001, 0));
        Due.no("lift below 0", x.place(0, 0, -1));
        Due.no("lift too high", x.place(0, 0, 10000));
        Due.no("no such figure", x.place(1, 0, 0));
        Due.no("no such figure", x.place(-1, 0, 0));
        Due.is("nothing changed: x", x.of(0, 2), 0);
        Due.yes("place farthest", x.place(0, 100000, 9999));
        Due.is("x", x.of(0, 2), 100000);
        Due.is("y", x.of(0, 3), 9999);
        Due.is("SLACK", x.of(0, 4), 0);
        Due.is("STANDS", x.of(0, 5), -1);
        Due.is("LIFT", x.of(0, 6), 9999);
        Due.yes("place low", x.place(0, -100000, 400));
        Due.is("x", x.of(0, 2), -100000);
        Due.is("y", x.of(0, 3), 1000);
        Due.is("SLACK", x.of(0, 4), 600);
        Due.is("STANDS", x.of(0, 5), 1);
        Due.is("LIFT", x.of(0, 6), 400);
    }

    private static void headings() {
        for (int rest = 0; rest < 16; rest++) {
            for (int v = 0; v <= 9; v++) {
                for (int side = -1; side <= 1; side += 2) {
                    PuppetBridge x = new PuppetBridge();
                    x.figure(7, rest, 5);
                    x.string(0, 0, side, 999);
                    x.place(0, 50, 2000);
                    Due.yes("pull", x.pull(0, 0, v));
                    int heading = Math.floorMod(rest + side * Math.min(v, 5), 16);
                    Due.is("HEADING", x.at(0, 0, 0), heading);
                    Due.is("x", x.at(0, 0, 1), 50 + 7 * WAYS[heading][0]);
                    Due.is("y", x.at(0, 0, 2), 2000 + 7 * WAYS[heading][1]);
                }
            }
        }
    }

    private static void pulls() {
        PuppetBridge x = new PuppetBridge();
        x.figure(10, 0, 8);
        x.string(0, 0, 1, 10);
        x.string(0, 0, -1, 999);
        Due.no("pull below 0", x.pull(0, 0, -1));
        Due.no("pull above 9", x.pull(0, 0, 10));
        Due.no("no such string", x.pull(0, 2, 1));
        Due.no("no such string", x.pull(0, -1, 1));
        Due.no("no such figure", x.pull(1, 0, 1));
        Due.yes("pull", x.pull(0, 0, 9));
        Due.is("MOST keeps it", x.at(0, 0, 0), 8);
        Due.yes("pull against", x.pull(0, 1, 3));
        Due.is("the sum is kept, not each", x.at(0, 0, 0), 6);
        Due.is("WEAR", x.pulled(0, 0, 1), 9);
        Due.yes("same again", x.pull(0, 0, 9));
        Due.is("no more WEAR", x.pulled(0, 0, 1), 9);
        Due.yes("one less", x.pull(0, 0, 8));
        Due.is("WEAR at STRENGTH", x.pulled(0, 0, 1), 10);
        Due.is("is whole", x.pulled(0, 0, 2), 0);
        Due.yes("one less", x.pull(0, 0, 7));
        Due.is("WEAR above STRENGTH", x.pulled(0, 0, 1), 11);
        Due.is("is BROKEN", x.pulled(0, 0, 2), 1);
        Due.is("its PULL", x.pulled(0, 0, 0), 7);
        Due.is("pulls nothing", x.at(0, 0, 0), 13);
        Due.yes("a BROKEN one", x.pull(0, 0, 2));
        Due.is("its PULL", x.pulled(0, 0, 0), 2);
        Due.is("its WISH", x.pulled(0, 0, 3), 2);
        Due.is("no WEAR more", x.pulled(0, 0, 1), 11);
        Due.is("of(0, 8)", x.of(0, 8), 1);
    }

    private static void mending() {
        PuppetBridge x = new PuppetBridge();
        x.figure(10, 0, 8);
        x.string(0, 0, 1, 10);
        x.string(0, 0, 1, 10);
        x.pull(0, 1, 4);
        Due.no("no such string", x.mend(0, 2, true));
        Due.no("no such string", x.mend(0, -1, true));
        Due.no("no such figure", x.mend(1, 0, true));
        Due.yes("breaks", x.mend(0, 1, true));
        Due.is("WEAR stays", x.pulled(0, 1, 1), 4);
        Due.is("PULL stays", x.pulled(0, 1, 0), 4);
        Due.is("bits", x.of(0, 8), 2);
        Due.is("HEADING", x.at(0, 0, 0), 0);
        Due.yes("mends", x.mend(0, 1, false));
        Due.is("WEAR", x.pulled(0, 1, 1), 0);
        Due.is("PULL", x.pulled(0, 1, 0), 4);
        Due.is("WISH", x.pulled(0, 1, 3), 4);
        Due.is("bits", x.of(0, 8), 0);
        Due.is("HEADING", x.at(0, 0, 0), 4);
        x.pull(0, 1, 8);
        Due.yes("mends a whole one", x.mend(0, 1, false));
        Due.is("WEAR", x.pulled(0, 1, 1), 0);
    }

    private static void settings() {
        PuppetBridge x = new PuppetBridge();
        int[][] wrong = {{0, 0}, {0, 10}, {1, -1}, {1, 2001}, {2, -1}, {2, 2}, {3, 1}, {-1, 1}};
        for (int[] w : wrong) {
            Due.is("set of others", x.set(w[0], w[1]), -1);
        }
        int[][] steps = {{0, 1, 9}, {0, 9, 1}, {1, 2000, 0}, {1, 7, 2000}, {2, 1, 0}, {2, 0, 1}, {0, 4, 9}, {1, 0, 7}};
        for (int[] s : steps) {
            Due.is("set(" + s[0] + ", " + s[1] + ")", x.set(s[0], s[1]), s[2]);
        }
    }

    private static void standing() {
        PuppetBridge x = new PuppetBridge();
        x.figure(10, 4, 0);
        x.limb(0, 0, 1, 10, 4, 0);
        Due.is("all points on the FLOOR: the HIP", x.of(0, 5), 0);
        x.limb(0, 0, 0, 5, 6, 0);
        Due.is("the lowest alone", x.of(0, 5), 3);
        x.limb(0, 0, 1, 5, 6, 0);
        Due.is("of two the less", x.of(0, 5), 3);
        Due.is("y", x.of(0, 3), 355);
        Due.is("SLACK", x.of(0, 4), 355);
        x.place(0, 0, 355);
        Due.is("at its very height it STANDS too", x.of(0, 5), 3);
        Due.is("no SLACK", x.of(0, 4), 0);
        x.place(0, 0, 356);
        Due.is("above the FLOOR", x.of(0, 5), -1);
        x.figure(1, 0, 0);
        x.place(1, 3, 0);
        Due.is("on its HIP", x.of(1, 5), 0);
    }

    private static void holding() {
        PuppetBridge x = new PuppetBridge();
        x.figure(10, 8, 8);
        x.string(0, 0, 1, 999);
        x.pull(0, 0, 1);
        Due.is("the foot holds", x.at(0, 0, 1), 0);
        Due.is("the HIP goes", x.of(0, 2), 380);
        Due.is("the HIP's y", x.of(0, 3), 920);
        x.pull(0, 0, 4);
        Due.is("it STANDS on the HIP now", x.of(0, 5), 0);
        Due.is("x as it was", x.of(0, 2), 380);
        x.pull(0, 0, 3);
        Due.is("on the foot again", x.of(0, 5), 1);
        Due.is("x as it was", x.of(0, 2), 380);
        x.mend(0, 0, true);
        Due.is("the foot holds as it breaks", x.at(0, 0, 1), 380 - 920);
        Due.is("the HIP over it", x.of(0, 2), -540);
        x.mend(0, 0, false);
        Due.is("and as it is mended", x.of(0, 2), 380);
        x.place(0, 7, 0);
        Due.is("place() puts the HIP, not the foot", x.of(0, 2), 7);
        x.place(0, 0, 5000);
        x.pull(0, 0, 0);
        Due.is("in the air x is as it was", x.of(0, 2), 0);
        Due.is("the foot too", x.at(0, 0, 1), 0);
    }

    private static void slipping() {
        PuppetBridge x = new PuppetBridge();
        x.figure(10, 8, 8);
        x.string(0, 0, 1, 999);
        x.set(2, 1);
        x.pull(0, 0, 1);
        Due.is("the foot slides", x.at(0, 0, 1), -380);
        Due.is("the HIP stays", x.of(0, 2), 0);
        x.set(2, 0);
        x.pull(0, 0, 2);
        Due.is("the foot holds where it slid to", x.at(0, 0, 1), -380);
        Due.is("the HIP goes", x.of(0, 2), 330);
    }

    private static void asking() {
        PuppetBridge x = new PuppetBridge();
        x.figure(10, 8, 8);
        x.string(0, 0, 1, 999);
        int[][] wrong = {{-1, 0}, {1, 0}, {0, -1}, {0, 9}, {4, 0}};
        for (int[] w : wrong) {
            Due.none("of(" + w[0] + ", " + w[1] + ")", () -> x.of(w[0], w[1]));
        }
        int[][] wrongAt = {{-1, 0, 0}, {1, 0, 0}, {0, -1, 0}, {0, 1, 0}, {0, 0, -1}, {0, 0, 3}};
        for (int[] w : wrongAt) {
            Due.none("at(" + w[0] + ", " + w[1] + ", " + w[2] + ")", () -> x.at(w[0], w[1], w[2]));
            Due.is("pulled of none such", x.pulled(w[0], w[1], w[2] == 3 ? 5 : w[2]), -1);
        }
        Due.is("of(0, 7) without a SCORE", x.of(0, 7), 0);
    }
}
