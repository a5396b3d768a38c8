import java.util.ArrayList;
import java.util.List;
import java.util.regex.Matcher;
import java.util.regex.Pattern;

/**
 * A second telling of the whole document, by other ways than the class goes: nothing is kept that can be reckoned
 * anew, texts are read by a pattern, casts are searched through, braids are matrices.
 */
final class Telling {
    /** The answer of a call that throws NoSuchElementException. */
    static final long THROWN = Long.MIN_VALUE;

    private static final int[] X = {0, 38, 71, 92, 100, 92, 71, 38, 0, -38, -71, -92, -100, -92, -71, -38};

    static final class Limb {
        int on;
        int end;
        int length;
        int rest;
        int most;
    }

    static final class Cord {
        int limb;
        int side;
        int strength;
        int pull;
        int wish;
        int wear;
        boolean broken;

        Cord copy() {
            Cord c = new Cord();
            c.limb = limb;
            c.side = side;
            c.strength = strength;
            c.pull = pull;
            c.wish = wish;
            c.wear = wear;
            c.broken = broken;
            return c;
        }

        void goTo(int v) {
            if (!broken) {
                wear += Math.abs(v - pull);
                broken = wear > strength;
            }
            pull = v;
        }
    }

    /** Where all points of a figure are, told from its hip's x and from the floor. */
    static final class Pose {
        int[] heading;
        int[] x;
        int[] y;
        int stands = -1;
    }

    static final class Doll {
        final List<Limb> limbs = new ArrayList<>();
        final List<Cord> cords = new ArrayList<>();
        String[] beats = {};
        int bar;
        int lift;
        int placed;
        int hip;

        Doll copy() {
            Doll d = new Doll();
            d.limbs.addAll(limbs);
            for (Cord c : cords) {
                d.cords.add(c.copy());
            }
            d.beats = beats;
            d.bar = bar;
            d.lift = lift;
            d.placed = placed;
            d.hip = hip;
            return d;
        }

        int heading(int limb) {
            int sum = 0;
            for (Cord c : cords) {
                if (c.limb == limb && !c.broken) {
                    sum += c.side * c.pull;
                }
            }
            int most = limbs.get(limb).most;
            return (limbs.get(limb).rest + (sum > most ? most : sum < -most ? -most : sum) + 16) % 16;
        }

        /** Points as they hang from a hip at 0, 0. */
        Pose hung() {
            int n = limbs.size();
            Pose p = new Pose();
            p.heading = new int[n];
            p.x = new int[n + 1];
            p.y = new int[n + 1];
            for (int k = 0; k < n; k++) {
                Limb limb = limbs.get(k);
                int from = 0;
                for (Limb l = limb; l != limbs.get(0); l = limbs.get(l.on)) {
                    if (l.end == 1) {
                        from = l.on + 1;
                        break;
                    }
                }
                p.heading[k] = heading(k);
                p.x[k + 1] = p.x[from] + limb.length * X[p.heading[k]];
                p.y[k + 1] = p.y[from] + limb.length * X[(p.heading[k] + 4) % 16];
            }
            return p;
        }

        Pose pose() {
            Pose p = hung();
            int up = lift;
            for (int y : p.y) {
                up = Math.max(up, -y);
            }
            for (int i = limbs.size(); i >= 0; i--) {
                p.y[i] += up;
                p.stands = p.y[i] == 0 ? i : p.stands;
            }
            return p;
        }

        void change(boolean slippery, Runnable does) {
            Pose was = pose();
            does.run();
            Pose is = pose();
            if (was.stands >= 0 && is.stands == was.stands && !slippery) {
                hip += was.x[was.stands] - is.x[is.stands];
            }
        }

        void items(int beat) {
            String told = beat < beats.length ? beats[beat] : ".";
            if (told.equals(".")) {
                return;
            }
            for (String item : told.split(",")) {
                int digit = item.charAt(1) - '0';
                if (item.charAt(0) == '+') {
                    lift = Math.min(9999, lift + 100 * digit);
                } else if (item.charAt(0) == '-') {
                    lift = Math.max(0, lift - 100 * digit);
                } else {
                    cords.get(item.charAt(0) - 'a').wish = digit;
                }
            }
        }

        void draw(int rate) {
            for (Cord c : cords) {
                int far = Math.min(rate, Math.abs(c.wish - c.pull));
                c.goTo(c.wish > c.pull ? c.pull + far : c.pull - far);
            }
        }
    }

    final List<Doll> dolls = new ArrayList<>();
    private final StringBuilder text = new StringBuilder();
    private final List<Integer> passes = new ArrayList<>();
    private final List<Integer> scenes = new ArrayList<>();
    private final List<int[]> tales = new ArrayList<>();
    private List<Integer> row = new ArrayList<>();
    private final int[][] met = new int[4][4];
    private final boolean[][] touched = new boolean[4][4];
    private final int[] settings = {9, 0, 0};
    private int beat;
    private int bars = 2;

    private static long flag(boolean b) {
        return b ? 1 : 0;
    }

    int rate() {
        return settings[0];
    }

    private Doll doll(int figure) {
        return figure < 0 || figure >= dolls.size() ? null : dolls.get(figure);
    }

    private Limb limbOf(int figure, int limb) {
        Doll d = doll(figure);
        return d == null || limb < 0 || limb >= d.limbs.size() ? null : d.limbs.get(limb);
    }

    private Cord cordOf(int figure, int string) {
        Doll d = doll(figure);
        return d == null || string < 0 || string >= d.cords.size() ? null : d.cords.get(string);
    }

    // ---- figures

    private static Limb shape(int length, int rest, int most) {
        Limb l = new Limb();
        l.length = length;
        l.rest = rest;
        l.most = most;
        return length < 1 || length > 20 || rest < 0 || rest > 15 || most < 0 || most > 8 ? null : l;
    }

    long figure(int length, int rest, int most) {
        Limb l = shape(length, rest, most);
        if (l == null || dolls.size() == 4) {
            return -1;
        }
        Doll d = new Doll();
        d.limbs.add(l);
        dolls.add(d);
        return dolls.size() - 1;
    }

    long limb(int figure, int on, int end, int length, int rest, int most) {
        Limb l = shape(length, rest, most);
        if (l == null || limbOf(figure, on) == null || end != 0 && end != 1 || doll(figure).limbs.size() == 8) {
            return -1;
        }
        l.on = on;
        l.end = end;
        doll(figure).limbs.add(l);
        return doll(figure).limbs.size() - 1;
    }

    long string(int figure, int limb, int side, int strength) {
        boolean told = limbOf(figure, limb) != null && (side == 1 || side == -1) && strength >= 1 && strength <= 999;
        if (!told || doll(figure).cords.size() == 8) {
            return -1;
        }
        Cord c = new Cord();
        c.limb = limb;
        c.side = side;
        c.strength = strength;
        doll(figure).cords.add(c);
        return doll(figure).cords.size() - 1;
    }

    long place(int figure, int x, int lift) {
        Doll d = doll(figure);
        if (d == null || x < -100000 || x > 100000 || lift < 0 || lift > 9999) {
            return 0;
        }
        d.bar = x;
        d.hip = x;
        d.lift = lift;
        d.placed = lift;
        return 1;
    }

    long pull(int figure, int string, int v) {
        Cord c = cordOf(figure, string);
        if (c == null || v < 0 || v > 9) {
            return 0;
        }
        doll(figure).change(settings[2] == 1, () -> {
            c.wish = v;
            c.goTo(v);
        });
        return 1;
    }

    long mend(int figure, int string, boolean broken) {
        Cord c = cordOf(figure, string);
        if (c == null) {
            return 0;
        }
        doll(figure).change(settings[2] == 1, () -> {
            c.broken = broken;
            c.wear = broken ? c.wear : 0;
        });
        return 1;
    }

    long set(int what, int v) {
        int[] least = {1, 0, 0};
        int[] most = {9, 2000, 1};
        if (what < 0 || what > 2 || v < least[what] || v > most[what]) {
            return -1;
        }
        int was = settings[what];
        settings[what] = v;
        return was;
    }

    long of(int figure, int what) {
        Doll d = doll(figure);
        if (d == null || what < 0 || what > 8) {
            return THROWN;
        }
        int bits = 0;
        for (int s = 0; s < d.cords.size(); s++) {
            bits += d.cords.get(s).broken ? 1 << s : 0;
        }
        Pose p = d.pose();
        int[] all = {d.limbs.size(), d.cords.size(), d.hip, p.y[0], p.y[0] - d.lift, p.stands, d.lift, d.beats.length, bits};
        return all[what];
    }

    long at(int figure, int limb, int what) {
        if (limbOf(figure, limb) == null || what < 0 || what > 2) {
            return THROWN;
        }
        Pose p = doll(figure).pose();
        return what == 0 ? p.heading[limb] : what == 1 ? doll(figure).hip + p.x[limb + 1] : p.y[limb + 1];
    }

    long pulled(int figure, int string, int what) {
        Cord c = cordOf(figure, string);
        if (c == null || what < 0 || what > 4) {
            return -1;
        }
        int[] all = {c.pull, c.wear, c.broken ? 1 : 0, c.wish, c.limb};
        return all[what];
    }

    // ---- scores

    long sign(int v) {
        if (text.length() > 96) {
            return -1;
        }
        for (int shift = 24; shift >= 0; shift -= 8) {
            text.append((char) (v >> shift & 255));
        }
        return text.length();
    }

    long end(int n) {
        if (n < 0 || n > text.length()) {
            return 0;
        }
        text.setLength(n);
        return 1;
    }

    private static Pattern grammar(int strings) {
        String letter = strings == 0 ? "[+\\-]" : "[+\\-a-" + (char) ('a' + strings - 1) + "]";
        String item = letter + "[0-9]";
        String plain = item + "(?:," + item + ")*|\\.";
        String beat = "(?:" + plain + ")";
        for (int depth = 0; depth < 3; depth++) {
            beat = "(?:" + plain + "|\\(" + beat + "(?:;" + beat + ")*\\)\\*[2-9])";
        }
        return Pattern.compile(beat + "(?:;" + beat + ")*");
    }

    /** Whether a text is a score (1), might become one (0), or neither (-1). */
    private static int read(Pattern grammar, String s) {
        Matcher m = grammar.matcher(s);
        return m.matches() ? 1 : m.hitEnd() ? 0 : -1;
    }

    private static String toldOut(String s) {
        Pattern inmost = Pattern.compile("\\(([^()]*)\\)\\*([2-9])");
        String all = s;
        for (Matcher m = inmost.matcher(all); m.find(); m = inmost.matcher(all)) {
            String times = (m.group(1) + ";").repeat(m.group(2).charAt(0) - '0');
            all = all.substring(0, m.start()) + times.substring(0, times.length() - 1) + all.substring(m.end());
        }
        return all;
    }

    long score(int figure) {
        String s = text.toString();
        text.setLength(0);
        if (doll(figure) == null) {
            return -101;
        }
        Pattern grammar = grammar(doll(figure).cords.size());
        for (int p = 0; p < s.length() && p < 60; p++) {
            if (read(grammar, s.substring(0, p + 1)) < 0) {
                return -1 - p;
            }
        }
        if (s.length() > 60) {
            return -61;
        }
        if (read(grammar, s) != 1) {
            return -1 - s.length();
        }
        String[] beats = toldOut(s).split(";");
        if (beats.length > 80) {
            return -100;
        }
        doll(figure).beats = beats;
        return beats.length;
    }

    private boolean touching(Doll a, Doll b) {
        Pose p = a.pose();
        Pose q = b.pose();
        for (int i = 0; i < p.x.length; i++) {
            for (int j = 0; j < q.x.length; j++) {
                int x = Math.abs(a.hip + p.x[i] - b.hip - q.x[j]);
                if (Math.max(x, Math.abs(p.y[i] - q.y[j])) <= settings[1]) {
                    return true;
                }
            }
        }
        return false;
    }

    private void playOn(Doll d, int at) {
        d.change(settings[2] == 1, () -> {
            d.items(at);
            d.draw(settings[0]);
        });
    }

    long play(int n) {
        if (n < 0 || n > 100 || beat + n > 1000) {
            return -1;
        }
        for (int i = 0; i < n; i++, beat++) {
            for (Doll d : dolls) {
                playOn(d, beat);
            }
            for (int a = 0; a < dolls.size(); a++) {
                for (int b = 0; b < a; b++) {
                    boolean now = touching(dolls.get(a), dolls.get(b));
                    met[a][b] += now && !touched[a][b] ? 1 : 0;
                    touched[a][b] = now;
                }
            }
        }
        return beat;
    }

    long again() {
        for (Doll d : dolls) {
            for (Cord c : d.cords) {
                c.pull = 0;
                c.wish = 0;
                c.wear = 0;
                c.broken = false;
            }
            d.hip = d.bar;
            d.lift = d.placed;
        }
        for (int a = 0; a < 4; a++) {
            for (int b = 0; b < 4; b++) {
                met[a][b] = 0;
                touched[a][b] = false;
            }
        }
        int was = beat;
        beat = 0;
        return was;
    }

    private boolean two(int a, int b) {
        return a != b && doll(a) != null && doll(b) != null;
    }

    long met(int a, int b) {
        return two(a, b) ? met[Math.max(a, b)][Math.min(a, b)] : -1;
    }

    long touch(int a, int b) {
        return two(a, b) ? flag(touching(doll(a), doll(b))) : -1;
    }

    long meeting(int a, int b, int n) {
        if (!two(a, b) || n < 1 || n > 100 || beat + n > 1000) {
            return -1;
        }
        Doll one = doll(a).copy();
        Doll other = doll(b).copy();
        for (int i = 0; i < n; i++) {
            playOn(one, beat + i);
            playOn(other, beat + i);
            if (touching(one, other)) {
                return i;
            }
        }
        return -1;
    }

    long count(int what) {
        int[] all = {dolls.size(), beat, bars, passes.size(), scenes.size(), tales.size(), row.size(), text.length()};
        return what < 0 || what > 7 ? -1 : all[what];
    }

    // ---- the bridge

    long bars(int n) {
        if (n < 2 || n > 5) {
            return 0;
        }
        bars = n;
        passes.clear();
        return 1;
    }

    long pass(int i) {
        if (i == 0 || i >= bars || i <= -bars || passes.size() == 40) {
            return -1;
        }
        passes.add(i);
        return passes.size();
    }

    long back() {
        if (passes.isEmpty()) {
            return 0;
        }
        passes.remove(passes.size() - 1);
        return 1;
    }

    /** The bars in their row behind all passes; the number in front of them is how often a and b were wound. */
    private int[] walked(int a, int b) {
        int[] at = {0, 0, 1, 2, 3, 4};
        for (int pass : passes) {
            int i = Math.abs(pass);
            int left = at[i];
            at[i] = at[i + 1];
            at[i + 1] = left;
            if (at[i] == a && left == b || at[i] == b && left == a) {
                at[0] += Integer.signum(pass);
            }
        }
        return at;
    }

    long bar(int spot) {
        return spot < 0 || spot >= bars ? -1 : walked(-1, -1)[spot + 1];
    }

    long wound(int a, int b) {
        return a == b || a < 0 || b < 0 || a >= bars || b >= bars ? -1000 : walked(a, b)[0];
    }

    long free() {
        return flag(Braids.isNone(passes));
    }

    long alike(int i) {
        if (i < 0 || i > passes.size()) {
            return -1;
        }
        List<Integer> contrary = new ArrayList<>(passes);
        for (int k = i - 1; k >= 0; k--) {
            contrary.add(-passes.get(k));
        }
        return flag(Braids.isNone(contrary));
    }

    long undo() {
        List<Integer> first = Braids.freeing(bars, passes);
        if (first == null) {
            return -1;
        }
        row = first;
        return first.size();
    }

    // ---- hands

    long scene(int bits) {
        if (bits < 0 || bits > 15 || scenes.size() == 8) {
            return -1;
        }
        scenes.add(bits);
        return scenes.size() - 1;
    }

    long clear() {
        int were = scenes.size();
        scenes.clear();
        tales.clear();
        return were;
    }

    /** All ways to share out the bars of a scene among p players, by order. */
    private static List<int[]> shares(int bits, int p) {
        List<int[]> all = new ArrayList<>();
        for (int code = 0; code < 256; code++) {
            int[] who = new int[4];
            int[] hands = new int[4];
            boolean fits = true;
            for (int bar = 0; bar < 4; bar++) {
                boolean needed = (bits >> bar & 1) == 1;
                int digit = code >> 2 * (3 - bar) & 3;
                who[bar] = needed ? digit : -1;
                fits &= needed ? digit < p && ++hands[digit] <= 2 : digit == 0;
            }
            if (fits) {
                all.add(who);
            }
        }
        return all;
    }

    private static int changes(int[] was, int[] is) {
        int n = 0;
        for (int bar = 0; bar < 4; bar++) {
            n += was[bar] >= 0 && is[bar] >= 0 && was[bar] != is[bar] ? 1 : 0;
        }
        return n;
    }

    long cast(int p) {
        if (p < 1 || p > 3) {
            return -1;
        }
        List<List<int[]>> all = new ArrayList<>();
        List<int[]> least = new ArrayList<>();
        for (int bits : scenes) {
            all.add(shares(bits, p));
            least.add(new int[all.get(all.size() - 1).size()]);
        }
        for (int s = scenes.size() - 1; s >= 0; s--) {
            if (all.get(s).isEmpty()) {
                return -1;
            }
            for (int i = 0; i < all.get(s).size() && s + 1 < scenes.size(); i++) {
                int[] who = all.get(s).get(i);
                int then = best(who, all.get(s + 1), least.get(s + 1));
                least.get(s)[i] = least.get(s + 1)[then] + changes(who, all.get(s + 1).get(then));
            }
        }
        row = new ArrayList<>();
        int cost = 0;
        int[] now = {-1, -1, -1, -1};
        for (int s = 0; s < scenes.size(); s++) {
            int i = best(now, all.get(s), least.get(s));
            cost += changes(now, all.get(s).get(i));
            now = all.get(s).get(i);
            for (int player : now) {
                row.add(player);
            }
        }
        return cost;
    }

    private static int best(int[] was, List<int[]> next, int[] least) {
        int first = 0;
        for (int i = 1; i < next.size(); i++) {
            if (least[i] + changes(was, next.get(i)) < least[first] + changes(was, next.get(first))) {
                first = i;
            }
        }
        return first;
    }

    // ---- wishes, tell-tales

    long reach(int figure, int limb, int bits, int x, int y) {
        boolean told = limbOf(figure, limb) != null && Math.max(x, y) <= 1000000 && Math.min(x, y) >= -1000000;
        if (!told || bits < 1 || bits > 255 || Integer.bitCount(bits) > 3) {
            return THROWN;
        }
        Doll d = doll(figure).copy();
        List<Cord> chosen = new ArrayList<>();
        for (int s = 0; s < 8; s++) {
            if ((bits >> s & 1) == 1) {
                Cord c = s < d.cords.size() ? d.cords.get(s) : null;
                if (c == null || c.broken) {
                    return THROWN;
                }
                chosen.add(c);
            }
        }
        int hipY = d.pose().y[0];
        long[] least = {Long.MAX_VALUE, 0};
        List<Integer> pulls = new ArrayList<>();
        tryPulls(chosen, 0, () -> {
            Pose p = d.hung();
            long dx = d.hip + p.x[limb + 1] - x;
            long dy = hipY + p.y[limb + 1] - y;
            int sum = 0;
            for (Cord c : chosen) {
                sum += c.pull;
            }
            if (dx * dx + dy * dy < least[0] || dx * dx + dy * dy == least[0] && sum < least[1]) {
                least[0] = dx * dx + dy * dy;
                least[1] = sum;
                pulls.clear();
                for (Cord c : chosen) {
                    pulls.add(c.pull);
                }
            }
        });
        row = pulls;
        return least[0];
    }

    private static void tryPulls(List<Cord> chosen, int from, Runnable look) {
        if (from == chosen.size()) {
            look.run();
            return;
        }
        for (int v = 0; v <= 9; v++) {
            chosen.get(from).pull = v;
            tryPulls(chosen, from + 1, look);
        }
    }

    long seen(int figure, int at, int limb, int heading) {
        if (limbOf(figure, limb) == null || at < 0 || at > 79 || heading < 0 || heading > 15 || tales.size() == 20) {
            return -1;
        }
        tales.add(new int[] {figure, at, limb, heading});
        return tales.size();
    }

    private boolean explains(int figure, int bits) {
        Doll d = doll(figure).copy();
        for (int s = 0; s < d.cords.size(); s++) {
            Cord c = d.cords.get(s);
            c.pull = 0;
            c.wish = 0;
            c.wear = 0;
            c.strength = 1000000;
            c.broken = (bits >> s & 1) == 1;
        }
        for (int at = 0; at < 80; at++) {
            d.items(at);
            d.draw(settings[0]);
            for (int[] t : tales) {
                if (t[0] == figure && t[1] == at && d.heading(t[2]) != t[3]) {
                    return false;
                }
            }
        }
        return true;
    }

    long broken(int figure) {
        if (doll(figure) == null) {
            return -1;
        }
        int strings = doll(figure).cords.size();
        for (int size = 0; size <= strings; size++) {
            int sets = 0;
            for (int bits = (1 << strings) - 1; bits >= 0; bits--) {
                if (Integer.bitCount(bits) == size && explains(figure, bits)) {
                    sets++;
                    row = new ArrayList<>(List.of(bits));
                }
            }
            if (sets > 0) {
                return sets;
            }
        }
        return 0;
    }

    long row(int i) {
        return i < 0 || i >= row.size() ? THROWN : row.get(i);
    }
}
