import java.util.NoSuchElementException;

/** A marionette bridge: figures on strings, scores of pulls, players who pass, hands, wishes, tell-tales. */
public final class PuppetBridge {
    public static final int NONE = -1;

    private static final int MOST_FIGURES = 4;
    private static final int MOST_LIMBS = 8;
    private static final int MOST_STRINGS = 8;
    private static final int HEADINGS = 16;
    private static final int TOP_PULL = 9;
    private static final int TOP_LIFT = 9999;
    private static final int FARTHEST_BAR = 100000;
    private static final int FARTHEST_WISH = 1000000;
    private static final int MOST_NEAR = 2000;
    private static final int LAST_BEAT = 1000;
    private static final int MOST_BEATS_A_CALL = 100;
    private static final int MOST_SCORE_BEATS = 80;
    private static final int MOST_SCORE_SIGNS = 60;
    private static final int MOST_TEXT_SIGNS = 100;
    private static final int TOO_MANY_BEATS = -100;
    private static final int NO_SUCH_FIGURE = -101;
    private static final int NO_SUCH_PAIR = -1000;

    private static final int[] WAY_X =
        {0, 38, 71, 92, 100, 92, 71, 38, 0, -38, -71, -92, -100, -92, -71, -38};
    private static final int[] WAY_Y =
        {100, 92, 71, 38, 0, -38, -71, -92, -100, -92, -71, -38, 0, 38, 71, 92};

    private final Stage stage;
    private final Text text;
    private final ScoreReader reader;
    private final Bridge bridge;
    private final Hands hands;
    private final Reach search;
    private final Tales tales;
    private final Row told;

    public PuppetBridge() {
        stage = new Stage();
        text = new Text();
        reader = new ScoreReader();
        bridge = new Bridge();
        hands = new Hands();
        search = new Reach();
        tales = new Tales();
        told = new Row();
    }

    // ---- figures

    public int figure(int length, int rest, int most) {
        if (!isLimbShape(length, rest, most) || stage.count >= MOST_FIGURES) {
            return NONE;
        }
        stage.figures[stage.count].grow(0, length, rest, most);
        stage.count++;
        return stage.count - 1;
    }

    public int limb(int figure, int on, int end, int length, int rest, int most) {
        if (!hasLimb(figure, on) || end < 0 || end > 1 || !isLimbShape(length, rest, most)) {
            return NONE;
        }
        Figure f = stage.figures[figure];
        if (f.limbs >= MOST_LIMBS) {
            return NONE;
        }
        return f.grow(end == 1 ? on + 1 : f.start[on], length, rest, most);
    }

    public int string(int figure, int limb, int side, int strength) {
        if (!hasLimb(figure, limb) || (side != 1 && side != -1) || !within(strength, 1, 999)) {
            return NONE;
        }
        Cords cords = stage.figures[figure].cords;
        if (cords.count >= MOST_STRINGS) {
            return NONE;
        }
        return cords.tie(limb, side, strength);
    }

    public boolean place(int figure, int x, int lift) {
        if (!hasFigure(figure) || !within(x, -FARTHEST_BAR, FARTHEST_BAR) || !within(lift, 0, TOP_LIFT)) {
            return false;
        }
        stage.figures[figure].hang(x, lift);
        return true;
    }

    public boolean pull(int figure, int string, int v) {
        if (!hasString(figure, string) || !within(v, 0, TOP_PULL)) {
            return false;
        }
        Figure f = stage.figures[figure];
        f.cords.wish[string] = v;
        f.cords.move(string, v);
        f.settle(stage.slippery);
        return true;
    }

    public boolean mend(int figure, int string, boolean broken) {
        if (!hasString(figure, string)) {
            return false;
        }
        Figure f = stage.figures[figure];
        f.cords.snapped[string] = broken;
        if (!broken) {
            f.cords.wear[string] = 0;
        }
        f.settle(stage.slippery);
        return true;
    }

    public int set(int what, int v) {
        int was = NONE;
        if (what == 0 && within(v, 1, 9)) {
            was = stage.rate;
            stage.rate = v;
        } else if (what == 1 && within(v, 0, MOST_NEAR)) {
            was = stage.near;
            stage.near = v;
        } else if (what == 2 && within(v, 0, 1)) {
            was = stage.slippery ? 1 : 0;
            stage.slippery = v == 1;
        }
        return was;
    }

    public int of(int figure, int what) throws NoSuchElementException {
        if (!hasFigure(figure)) {
            throw new NoSuchElementException();
        }
        Figure f = stage.figures[figure];
        switch (what) {
            case 0: return f.limbs;
            case 1: return f.cords.count;
            case 2: return f.hipX;
            case 3: return f.hipY;
            case 4: return f.hipY - f.lift;
            case 5: return f.stands;
            case 6: return f.lift;
            case 7: return f.score.beats;
            case 8: return f.cords.snappedBits();
            default: throw new NoSuchElementException();
        }
    }

    public int at(int figure, int limb, int what) throws NoSuchElementException {
        if (!hasLimb(figure, limb)) {
            throw new NoSuchElementException();
        }
        Figure f = stage.figures[figure];
        switch (what) {
            case 0: return f.heading[limb];
            case 1: return f.hipX + f.offX[limb + 1];
            case 2: return f.hipY + f.offY[limb + 1];
            default: throw new NoSuchElementException();
        }
    }

    public int pulled(int figure, int string, int what) {
        if (!hasString(figure, string)) {
            return NONE;
        }
        Cords cords = stage.figures[figure].cords;
        switch (what) {
            case 0: return cords.pull[string];
            case 1: return cords.wear[string];
            case 2: return cords.snapped[string] ? 1 : 0;
            case 3: return cords.wish[string];
            case 4: return cords.limb[string];
            default: return NONE;
        }
    }

    // ---- scores

    public int sign(int v) {
        if (text.length + 4 > MOST_TEXT_SIGNS) {
            return NONE;
        }
        text.append(v);
        return text.length;
    }

    public boolean end(int n) {
        if (!within(n, 0, text.length)) {
            return false;
        }
        text.length = n;
        return true;
    }

    public int score(int figure) {
        int answer = NO_SUCH_FIGURE;
        if (hasFigure(figure)) {
            Figure f = stage.figures[figure];
            answer = reader.read(text, f.cords.count, f.score);
        }
        // NO_SUCH_FIGURE is neither NONE nor false, so it is no refused call: THE TEXT goes whatever the answer.
        text.length = 0;
        return answer;
    }

    public int play(int n) {
        if (!within(n, 0, MOST_BEATS_A_CALL) || stage.beat + n > LAST_BEAT) {
            return NONE;
        }
        for (int i = 0; i < n; i++) {
            stage.playBeat();
        }
        return stage.beat;
    }

    public int again() {
        int was = stage.beat;
        stage.rewind();
        return was;
    }

    public int met(int a, int b) {
        return isPair(a, b) ? stage.meetings[Stage.pairOf(a, b)] : NONE;
    }

    public int touch(int a, int b) {
        if (!isPair(a, b)) {
            return NONE;
        }
        return stage.figures[a].touches(stage.figures[b], stage.near) ? 1 : 0;
    }

    public int meeting(int a, int b, int n) {
        if (!isPair(a, b) || !within(n, 1, MOST_BEATS_A_CALL) || stage.beat + n > LAST_BEAT) {
            return NONE;
        }
        return stage.foresee(stage.figures[a], stage.figures[b], n);
    }

    public int count(int what) {
        switch (what) {
            case 0: return stage.count;
            case 1: return stage.beat;
            case 2: return bridge.bars;
            case 3: return bridge.count;
            case 4: return hands.count;
            case 5: return tales.count;
            case 6: return told.size;
            case 7: return text.length;
            default: return NONE;
        }
    }

    // ---- the bridge

    public boolean bars(int n) {
        if (!within(n, Bridge.FEWEST_BARS, Bridge.MOST_BARS)) {
            return false;
        }
        bridge.lay(n);
        return true;
    }

    public int pass(int i) {
        boolean known = within(i, 1, bridge.bars - 1) || within(i, 1 - bridge.bars, -1);
        if (!known || bridge.count >= Bridge.MOST_PASSES) {
            return NONE;
        }
        bridge.passes[bridge.count] = i;
        bridge.count++;
        bridge.swap(i);
        return bridge.count;
    }

    public boolean back() {
        if (bridge.count <= 0) {
            return false;
        }
        bridge.count--;
        bridge.swap(-bridge.passes[bridge.count]);
        return true;
    }

    public int bar(int spot) {
        return within(spot, 0, bridge.bars - 1) ? bridge.spots[spot] : NONE;
    }

    public int wound(int a, int b) {
        int last = bridge.bars - 1;
        if (a == b || !within(a, 0, last) || !within(b, 0, last)) {
            return NO_SUCH_PAIR;
        }
        return bridge.turns[Bridge.pairOf(a, b)];
    }

    public int free() {
        return bridge.isFree() ? 1 : 0;
    }

    public int alike(int i) {
        if (!within(i, 0, bridge.count)) {
            return NONE;
        }
        return bridge.isIdleFrom(i) ? 1 : 0;
    }

    public int undo() {
        int fewest = bridge.unwind();
        if (fewest != NONE) {
            told.size = 0;
            for (int i = 0; i < fewest; i++) {
                told.add(bridge.trail[i]);
            }
        }
        return fewest;
    }

    // ---- hands

    public int scene(int bits) {
        if (!within(bits, 0, 15) || hands.count >= Hands.MOST_SCENES) {
            return NONE;
        }
        hands.scenes[hands.count] = bits;
        hands.count++;
        return hands.count - 1;
    }

    public int clear() {
        int were = hands.count;
        hands.count = 0;
        tales.count = 0;
        return were;
    }

    public int cast(int p) {
        if (!within(p, 1, Hands.MOST_PLAYERS)) {
            return NONE;
        }
        return hands.share(p, told);
    }

    // ---- wishes, tell-tales

    public long reach(int figure, int limb, int bits, int x, int y) throws NoSuchElementException {
        if (!hasLimb(figure, limb) || !isReachable(x) || !isReachable(y)) {
            throw new NoSuchElementException();
        }
        Figure f = stage.figures[figure];
        if (!within(bits, 1, (1 << f.cords.count) - 1) || Integer.bitCount(bits) > Reach.MOST_CHOSEN
                || (bits & f.cords.snappedBits()) != 0) {
            throw new NoSuchElementException();
        }
        stage.understudy.mimic(f);
        search.choose(bits);
        return search.nearest(stage.understudy, limb, x, y, told);
    }

    public int seen(int figure, int beat, int limb, int heading) {
        if (!hasLimb(figure, limb) || !within(beat, 0, MOST_SCORE_BEATS - 1)
                || !within(heading, 0, HEADINGS - 1) || tales.count >= Tales.MOST_TALES) {
            return NONE;
        }
        tales.add(figure, beat, limb, heading);
        return tales.count;
    }

    public int broken(int figure) {
        if (!hasFigure(figure)) {
            return NONE;
        }
        Figure f = stage.understudy;
        f.mimic(stage.figures[figure]);
        tales.rehearse(figure, f, stage.rate);
        return tales.explain(figure, f, told);
    }

    public int row(int i) throws NoSuchElementException {
        if (!within(i, 0, told.size - 1)) {
            throw new NoSuchElementException();
        }
        return told.numbers[i];
    }

    // ---- what calls ask first

    private static boolean within(int v, int least, int most) {
        return v >= least && v <= most;
    }

    private static boolean isLimbShape(int length, int rest, int most) {
        return within(length, 1, 20) && within(rest, 0, HEADINGS - 1) && within(most, 0, 8);
    }

    private static boolean isReachable(int v) {
        return within(v, -FARTHEST_WISH, FARTHEST_WISH);
    }

    private boolean hasFigure(int figure) {
        return within(figure, 0, stage.count - 1);
    }

    private boolean hasLimb(int figure, int limb) {
        return hasFigure(figure) && within(limb, 0, stage.figures[figure].limbs - 1);
    }

    private boolean hasString(int figure, int string) {
        return hasFigure(figure) && within(string, 0, stage.figures[figure].cords.count - 1);
    }

    private boolean isPair(int a, int b) {
        return a != b && hasFigure(a) && hasFigure(b);
    }

    /** The ROW. */
    private static final class Row {
        static final int MOST_NUMBERS = 32;

        final int[] numbers = new int[MOST_NUMBERS];
        int size;

        void add(int v) {
            if (size < MOST_NUMBERS) {
                numbers[size] = v;
                size++;
            }
        }
    }

    /** THE TEXT. */
    private static final class Text {
        final int[] signs = new int[MOST_TEXT_SIGNS];
        int length;

        void append(int v) {
            for (int shift = 24; shift >= 0 && length < MOST_TEXT_SIGNS; shift -= 8) {
                signs[length] = (v >>> shift) & 255;
                length++;
            }
        }
    }

    /** A SCORE that has been read: its signs, and at which of them each BEAT, repeats told out, begins. */
    private static final class Score {
        final int[] signs = new int[MOST_SCORE_SIGNS];
        final int[] starts = new int[MOST_SCORE_BEATS];
        int length;
        int beats;
    }

    /** Reads THE TEXT as a SCORE. */
    private static final class ScoreReader {
        static final int MOST_DEPTH = 3;
        /** Far above the signs that 81 BEATS and the brackets round them can take. */
        static final int MOST_STEPS = 10000;

        static final int WRONG = -1;
        static final int WANTS_BEAT = 0;
        static final int WANTS_ITEM = 1;
        static final int WANTS_DIGIT = 2;
        static final int BEHIND_ITEM = 3;
        static final int BEHIND_BEAT = 4;
        static final int WANTS_STAR = 5;
        static final int WANTS_TIMES = 6;

        final int[] starts = new int[MOST_SCORE_BEATS];
        final int[] opened = new int[MOST_DEPTH];
        final int[] rounds = new int[MOST_DEPTH];
        int beats;

        int read(Text text, int strings, Score into) {
            int wrong = firstWrong(text, strings);
            if (wrong != NONE) {
                return -1 - wrong;
            }
            unroll(text);
            if (beats > MOST_SCORE_BEATS) {
                return TOO_MANY_BEATS;
            }
            keep(text, into);
            return beats;
        }

        private static int firstWrong(Text text, int strings) {
            int state = WANTS_BEAT;
            int depth = 0;
            for (int p = 0; p < text.length && p < MOST_SCORE_SIGNS; p++) {
                int sign = text.signs[p];
                state = follow(state, sign, depth, strings);
                if (state == WRONG) {
                    return p;
                }
                if (sign == '(') {
                    depth++;
                } else if (sign == ')') {
                    depth--;
                }
            }
            if (text.length > MOST_SCORE_SIGNS) {
                return MOST_SCORE_SIGNS;
            }
            boolean whole = depth == 0 && (state == BEHIND_ITEM || state == BEHIND_BEAT);
            return whole ? NONE : text.length;
        }

        private static int follow(int state, int sign, int depth, int strings) {
            switch (state) {
                case WANTS_BEAT:
                    if (sign == '(') {
                        return depth < MOST_DEPTH ? WANTS_BEAT : WRONG;
                    }
                    return sign == '.' ? BEHIND_BEAT : followItem(sign, strings);
                case WANTS_ITEM:
                    return followItem(sign, strings);
                case WANTS_DIGIT:
                    return within(sign, '0', '9') ? BEHIND_ITEM : WRONG;
                case BEHIND_ITEM:
                    return sign == ',' ? WANTS_ITEM : followBeat(sign, depth);
                case BEHIND_BEAT:
                    return followBeat(sign, depth);
                case WANTS_STAR:
                    return sign == '*' ? WANTS_TIMES : WRONG;
                case WANTS_TIMES:
                    return within(sign, '2', '9') ? BEHIND_BEAT : WRONG;
                default:
                    return WRONG;
            }
        }

        private static int followItem(int sign, int strings) {
            boolean begins = sign == '+' || sign == '-' || within(sign, 'a', 'a' + strings - 1);
            return begins ? WANTS_DIGIT : WRONG;
        }

        private static int followBeat(int sign, int depth) {
            if (sign == ';') {
                return WANTS_BEAT;
            }
            return sign == ')' && depth > 0 ? WANTS_STAR : WRONG;
        }

        /** Goes through a text that is known to be whole; stops at the 81st BEAT, for one of 9 * 9 * 9 rounds. */
        private void unroll(Text text) {
            beats = 0;
            int depth = 0;
            int p = 0;
            for (int step = 0; step < MOST_STEPS && p < text.length && beats <= MOST_SCORE_BEATS; step++) {
                int sign = text.signs[p];
                if (sign == '(' && depth < MOST_DEPTH) {
                    opened[depth] = p + 1;
                    rounds[depth] = 0;
                    depth++;
                    p++;
                } else if (sign == ')' && depth > 0) {
                    if (anotherRound(text, p, depth - 1)) {
                        p = opened[depth - 1];
                    } else {
                        depth--;
                        p += 3;
                    }
                } else if (sign == ';') {
                    p++;
                } else {
                    note(p);
                    p = pastBeat(text, p);
                }
            }
        }

        private boolean anotherRound(Text text, int p, int level) {
            int times = p + 2 < text.length ? text.signs[p + 2] - '0' : 0;
            rounds[level]++;
            return rounds[level] < times;
        }

        private void note(int p) {
            if (beats < MOST_SCORE_BEATS) {
                starts[beats] = p;
            }
            beats++;
        }

        private static int pastBeat(Text text, int from) {
            int p = from;
            while (p < text.length && text.signs[p] != ';' && text.signs[p] != ')') {
                p++;
            }
            return p;
        }

        private void keep(Text text, Score into) {
            into.length = Math.min(text.length, MOST_SCORE_SIGNS);
            into.beats = Math.min(beats, MOST_SCORE_BEATS);
            System.arraycopy(text.signs, 0, into.signs, 0, into.length);
            System.arraycopy(starts, 0, into.starts, 0, into.beats);
        }
    }

    /** The STRINGS of a FIGURE. */
    private static final class Cords {
        final int[] limb = new int[MOST_STRINGS];
        final int[] side = new int[MOST_STRINGS];
        final int[] strength = new int[MOST_STRINGS];
        final int[] pull = new int[MOST_STRINGS];
        final int[] wish = new int[MOST_STRINGS];
        final int[] wear = new int[MOST_STRINGS];
        final boolean[] snapped = new boolean[MOST_STRINGS];
        int count;

        int tie(int toLimb, int onSide, int ofStrength) {
            limb[count] = toLimb;
            side[count] = onSide;
            strength[count] = ofStrength;
            count++;
            return count - 1;
        }

        void move(int s, int v) {
            int went = Math.abs(v - pull[s]);
            pull[s] = v;
            if (!snapped[s]) {
                wear[s] += went;
                snapped[s] = wear[s] > strength[s];
            }
        }

        void moveAll(int rate) {
            for (int s = 0; s < count; s++) {
                int way = wish[s] - pull[s];
                move(s, pull[s] + Math.max(-rate, Math.min(rate, way)));
            }
        }

        int snappedBits() {
            int bits = 0;
            for (int s = 0; s < count; s++) {
                if (snapped[s]) {
                    bits |= 1 << s;
                }
            }
            return bits;
        }

        void renew() {
            for (int s = 0; s < count; s++) {
                pull[s] = 0;
                wish[s] = 0;
                wear[s] = 0;
                snapped[s] = false;
            }
        }

        void mimic(Cords other) {
            count = other.count;
            System.arraycopy(other.limb, 0, limb, 0, MOST_STRINGS);
            System.arraycopy(other.side, 0, side, 0, MOST_STRINGS);
            System.arraycopy(other.strength, 0, strength, 0, MOST_STRINGS);
            System.arraycopy(other.pull, 0, pull, 0, MOST_STRINGS);
            System.arraycopy(other.wish, 0, wish, 0, MOST_STRINGS);
            System.arraycopy(other.wear, 0, wear, 0, MOST_STRINGS);
            for (int s = 0; s < MOST_STRINGS; s++) {
                snapped[s] = other.snapped[s];
            }
        }
    }

    /** A FIGURE. Its points are numbered as those it STANDS on: 0 the HIP, k + 1 the end of LIMB k. */
    private static final class Figure {
        /** The point at which a LIMB begins: one that is on the beginning of another begins where that does. */
        final int[] start = new int[MOST_LIMBS];
        final int[] length = new int[MOST_LIMBS];
        final int[] rest = new int[MOST_LIMBS];
        final int[] most = new int[MOST_LIMBS];
        final int[] heading = new int[MOST_LIMBS];
        /** Points, told from the HIP. */
        final int[] offX = new int[MOST_LIMBS + 1];
        final int[] offY = new int[MOST_LIMBS + 1];
        final Cords cords = new Cords();
        Score score = new Score();
        int limbs;
        int bar;
        int lift;
        int placedLift;
        int hipX;
        int hipY;
        int stands;

        int grow(int fromPoint, int ofLength, int ofRest, int ofMost) {
            start[limbs] = fromPoint;
            length[limbs] = ofLength;
            rest[limbs] = ofRest;
            most[limbs] = ofMost;
            limbs++;
            bend();
            stand();
            return limbs - 1;
        }

        void hang(int x, int height) {
            bar = x;
            lift = height;
            placedLift = height;
            hipX = x;
            stand();
        }

        void restart() {
            cords.renew();
            lift = placedLift;
            hipX = bar;
            bend();
            stand();
        }

        /** The place made anew behind a change: the point that it stood on may hold. */
        void settle(boolean slippery) {
            int stood = stands;
            int held = stood == NONE ? 0 : hipX + offX[stood];
            bend();
            stand();
            if (stood != NONE && stands == stood && !slippery) {
                hipX = held - offX[stood];
            }
        }

        void bend() {
            for (int k = 0; k < limbs; k++) {
                heading[k] = 0;
            }
            for (int s = 0; s < cords.count; s++) {
                if (!cords.snapped[s]) {
                    heading[cords.limb[s]] += cords.side[s] * cords.pull[s];
                }
            }
            for (int k = 0; k < limbs; k++) {
                heading[k] = headingFor(k, heading[k]);
                offX[k + 1] = offX[start[k]] + length[k] * WAY_X[heading[k]];
                offY[k + 1] = offY[start[k]] + length[k] * WAY_Y[heading[k]];
            }
        }

        int headingFor(int limb, int pulls) {
            int turn = Math.max(-most[limb], Math.min(most[limb], pulls));
            return Math.floorMod(rest[limb] + turn, HEADINGS);
        }

        private void stand() {
            int lowest = 0;
            for (int point = 1; point <= limbs; point++) {
                lowest = Math.min(lowest, offY[point]);
            }
            hipY = Math.max(lift, -lowest);
            stands = NONE;
            for (int point = limbs; point >= 0; point--) {
                if (hipY + offY[point] == 0) {
                    stands = point;
                }
            }
        }

        void playBeat(int beat, int rate, boolean slippery) {
            heed(beat);
            cords.moveAll(rate);
            settle(slippery);
        }

        /** The ITEMS of a BEAT, none behind the SCORE's end; each takes two signs and one for the comma. */
        void heed(int beat) {
            if (beat < 0 || beat >= score.beats) {
                return;
            }
            for (int p = score.starts[beat]; p + 1 < score.length; p += 3) {
                if (score.signs[p] == '.') {
                    break;
                }
                obey(score.signs[p], score.signs[p + 1] - '0');
                if (p + 2 >= score.length || score.signs[p + 2] != ',') {
                    break;
                }
            }
        }

        private void obey(int sign, int digit) {
            if (sign == '+') {
                lift = Math.min(TOP_LIFT, lift + 100 * digit);
            } else if (sign == '-') {
                lift = Math.max(0, lift - 100 * digit);
            } else if (within(sign, 'a', 'a' + cords.count - 1)) {
                cords.wish[sign - 'a'] = digit;
            }
        }

        boolean touches(Figure other, int near) {
            for (int i = 0; i <= limbs; i++) {
                for (int j = 0; j <= other.limbs; j++) {
                    int x = hipX + offX[i] - other.hipX - other.offX[j];
                    int y = hipY + offY[i] - other.hipY - other.offY[j];
                    if (Math.abs(x) <= near && Math.abs(y) <= near) {
                        return true;
                    }
                }
            }
            return false;
        }

        /** All that another FIGURE is, but its SCORE, which is shared and only read. */
        void mimic(Figure other) {
            limbs = other.limbs;
            bar = other.bar;
            lift = other.lift;
            placedLift = other.placedLift;
            hipX = other.hipX;
            hipY = other.hipY;
            stands = other.stands;
            score = other.score;
            cords.mimic(other.cords);
            System.arraycopy(other.start, 0, start, 0, MOST_LIMBS);
            System.arraycopy(other.length, 0, length, 0, MOST_LIMBS);
            System.arraycopy(other.rest, 0, rest, 0, MOST_LIMBS);
            System.arraycopy(other.most, 0, most, 0, MOST_LIMBS);
            System.arraycopy(other.heading, 0, heading, 0, MOST_LIMBS);
            System.arraycopy(other.offX, 0, offX, 0, MOST_LIMBS + 1);
            System.arraycopy(other.offY, 0, offY, 0, MOST_LIMBS + 1);
        }
    }

    /** The FIGURES and the PLAY. */
    private static final class Stage {
        final Figure[] figures = new Figure[MOST_FIGURES];
        /** Stand in for FIGURES where a call asks what would be. */
        final Figure understudy = new Figure();
        final Figure otherUnderstudy = new Figure();
        final int[] meetings = new int[MOST_FIGURES * MOST_FIGURES];
        /** Which two TOUCHED behind the BEAT ahead. */
        final boolean[] together = new boolean[MOST_FIGURES * MOST_FIGURES];
        int count;
        int beat;
        int rate = 9;
        int near;
        boolean slippery;

        Stage() {
            for (int i = 0; i < MOST_FIGURES; i++) {
                figures[i] = new Figure();
            }
        }

        static int pairOf(int a, int b) {
            return Math.min(a, b) * MOST_FIGURES + Math.max(a, b);
        }

        void playBeat() {
            for (int i = 0; i < count; i++) {
                figures[i].playBeat(beat, rate, slippery);
            }
            for (int a = 0; a < count; a++) {
                for (int b = a + 1; b < count; b++) {
                    meet(a, b);
                }
            }
            beat++;
        }

        private void meet(int a, int b) {
            int pair = pairOf(a, b);
            boolean now = figures[a].touches(figures[b], near);
            if (now && !together[pair]) {
                meetings[pair]++;
            }
            together[pair] = now;
        }

        void rewind() {
            beat = 0;
            for (int i = 0; i < count; i++) {
                figures[i].restart();
            }
            for (int pair = 0; pair < MOST_FIGURES * MOST_FIGURES; pair++) {
                meetings[pair] = 0;
                together[pair] = false;
            }
        }

        int foresee(Figure a, Figure b, int n) {
            understudy.mimic(a);
            otherUnderstudy.mimic(b);
            for (int i = 0; i < n; i++) {
                understudy.playBeat(beat + i, rate, slippery);
                otherUnderstudy.playBeat(beat + i, rate, slippery);
                if (understudy.touches(otherUnderstudy, near)) {
                    return i;
                }
            }
            return NONE;
        }
    }

    /**
     * THE BRIDGE. PASSES that are ALIKE are equal braids. A braid is none just if it leaves Dynnikov's
     * coordinates of a fixed curve as they are; 46 PASSES keep these far inside a long.
     */
    private static final class Bridge {
        static final int FEWEST_BARS = 2;
        static final int MOST_BARS = 5;
        static final int MOST_PASSES = 40;
        static final int MOST_UNDO = 6;

        /**
         * The farthest that 0 .. 6 PASSES spread the curve, found by trying all rows of them: a curve that is
         * spread farther can't be made straight by so few.
         */
        private static final int[] FARTHEST = {5, 6, 9, 14, 22, 35, 56};

        final int[] passes = new int[MOST_PASSES];
        final int[] spots = new int[MOST_BARS];
        final int[] turns = new int[MOST_BARS * MOST_BARS];
        final long[] curve = new long[2 * MOST_BARS];
        final long[] trialCurve = new long[2 * MOST_BARS];
        final int[] trail = new int[MOST_UNDO];
        int bars;
        int count;
        /** The sum of all turns, each without its sign: no fewer PASSES can free the STRINGS. */
        int tangle;

        Bridge() {
            lay(FEWEST_BARS);
        }

        void lay(int n) {
            bars = n;
            count = 0;
            tangle = 0;
            for (int k = 0; k < MOST_BARS; k++) {
                spots[k] = k;
            }
            for (int pair = 0; pair < MOST_BARS * MOST_BARS; pair++) {
                turns[pair] = 0;
            }
            straighten(curve);
        }

        static int pairOf(int a, int b) {
            return Math.min(a, b) * MOST_BARS + Math.max(a, b);
        }

        /** A PASS happens; its contrary takes it back, for the same two BARS are at its SPOTS. */
        void swap(int pass) {
            int right = Math.abs(pass);
            if (right < 1 || right >= bars) {
                return;
            }
            int moved = spots[right - 1];
            spots[right - 1] = spots[right];
            spots[right] = moved;
            int pair = pairOf(spots[right - 1], spots[right]);
            tangle -= Math.abs(turns[pair]);
            turns[pair] += pass > 0 ? 1 : -1;
            tangle += Math.abs(turns[pair]);
            weave(curve, pass);
        }

        boolean isFree() {
            return tangle == 0 && isStraight(curve);
        }

        /** The first i PASSES are ALIKE to all just if the others together are ALIKE to none. */
        boolean isIdleFrom(int i) {
            straighten(trialCurve);
            for (int k = i; k < count; k++) {
                weave(trialCurve, passes[k]);
            }
            return isStraight(trialCurve);
        }

        int unwind() {
            for (int n = tangle; n <= MOST_UNDO; n += 2) {
                if (isFreeBehind(this, n, 0)) {
                    return n;
                }
            }
            return NONE;
        }

        private static boolean isFreeBehind(Bridge b, int n, int depth) {
            int left = n - depth;
            if (left < 0 || left > MOST_UNDO || b.tangle > left || b.spread() > FARTHEST[left]) {
                return false;
            }
            if (left == 0 || depth >= MOST_UNDO) {
                return b.isFree();
            }
            for (int k = 2; k < 2 * b.bars; k++) {
                int pass = k % 2 == 0 ? k / 2 : -(k / 2);
                if (depth > 0 && b.trail[depth - 1] == -pass) {
                    continue;
                }
                b.trail[depth] = pass;
                b.swap(pass);
                boolean found = isFreeBehind(b, n, depth + 1);
                b.swap(-pass);
                if (found) {
                    return true;
                }
            }
            return false;
        }

        private long spread() {
            long sum = 0;
            for (int k = 0; k < curve.length; k++) {
                sum += Math.abs(curve[k]);
            }
            return sum;
        }

        private static void straighten(long[] c) {
            for (int k = 0; k < c.length; k++) {
                c[k] = k % 2;
            }
        }

        private static boolean isStraight(long[] c) {
            for (int k = 0; k < c.length; k++) {
                if (c[k] != k % 2) {
                    return false;
                }
            }
            return true;
        }

        private static void weave(long[] c, int pass) {
            int at = 2 * (Math.abs(pass) - 1);
            if (at < 0 || at + 3 >= c.length) {
                return;
            }
            if (pass > 0) {
                weaveBefore(c, at);
            } else {
                weaveBehind(c, at);
            }
        }

        private static void weaveBefore(long[] c, int at) {
            long x = c[at];
            long y = c[at + 1];
            long u = c[at + 2];
            long v = c[at + 3];
            long z = x - minus(y) - u + plus(v);
            c[at] = x + plus(y) + plus(plus(v) - z);
            c[at + 1] = v - plus(z);
            c[at + 2] = u + minus(v) + minus(minus(y) + z);
            c[at + 3] = y + plus(z);
        }

        private static void weaveBehind(long[] c, int at) {
            long x = c[at];
            long y = c[at + 1];
            long u = c[at + 2];
            long v = c[at + 3];
            long z = x + minus(y) - u - plus(v);
            c[at] = x - plus(y) - plus(plus(v) + z);
            c[at + 1] = v + minus(z);
            c[at + 2] = u - minus(v) - minus(minus(y) - z);
            c[at + 3] = y - minus(z);
        }

        private static long plus(long v) {
            return Math.max(0L, v);
        }

        private static long minus(long v) {
            return Math.min(0L, v);
        }
    }

    /**
     * SCENES and their CASTS. Whoever holds a BAR can always go on: the BARS that come have the hands that are left.
     * So the LEAST CAST costs nothing, and of these each SCENE has its first one, whatever comes behind it.
     */
    private static final class Hands {
        static final int MOST_SCENES = 8;
        static final int MOST_PLAYERS = 3;
        static final int BARS = 4;
        static final int HANDS_EACH = 2;

        final int[] scenes = new int[MOST_SCENES];
        /** Who holds each BAR, and how many each PLAYER holds, in the SCENE that is being cast. */
        final int[] holder = new int[BARS];
        final int[] held = new int[MOST_PLAYERS];
        int count;

        int share(int players, Row row) {
            for (int s = 0; s < count; s++) {
                if (Integer.bitCount(scenes[s]) > HANDS_EACH * players) {
                    return NONE;
                }
            }
            row.size = 0;
            for (int bar = 0; bar < BARS; bar++) {
                holder[bar] = NONE;
            }
            for (int s = 0; s < count; s++) {
                goOn(scenes[s]);
                takeUp(scenes[s], players);
                for (int bar = 0; bar < BARS; bar++) {
                    row.add(holder[bar]);
                }
            }
            return 0;
        }

        private void goOn(int bits) {
            for (int player = 0; player < MOST_PLAYERS; player++) {
                held[player] = 0;
            }
            for (int bar = 0; bar < BARS; bar++) {
                if ((bits >> bar & 1) == 0) {
                    holder[bar] = NONE;
                } else if (holder[bar] != NONE) {
                    held[holder[bar]]++;
                }
            }
        }

        private void takeUp(int bits, int players) {
            for (int bar = 0; bar < BARS; bar++) {
                for (int player = 0; player < players && (bits >> bar & 1) == 1 && holder[bar] == NONE; player++) {
                    if (held[player] < HANDS_EACH) {
                        holder[bar] = player;
                        held[player]++;
                    }
                }
            }
        }
    }

    /** The search for PULLS by which the end of a LIMB is nearest to a PLACE. */
    private static final class Reach {
        static final int MOST_CHOSEN = 3;
        static final int PULLS = TOP_PULL + 1;
        /** Above every square of a distance. */
        static final long BEYOND = 9000000000000000000L;

        final int[] chosen = new int[MOST_CHOSEN];
        final int[] best = new int[MOST_CHOSEN];
        int count;

        void choose(int bits) {
            count = 0;
            for (int s = 0; s < MOST_STRINGS && count < MOST_CHOSEN; s++) {
                if ((bits >> s & 1) == 1) {
                    chosen[count] = s;
                    count++;
                }
            }
        }

        long nearest(Figure f, int limb, int x, int y, Row row) {
            long least = BEYOND;
            int leastSum = 0;
            for (int code = 0; code < codes(); code++) {
                int sum = pullBy(code, f.cords);
                f.bend();
                long d = square(f.hipX + f.offX[limb + 1] - x) + square(f.hipY + f.offY[limb + 1] - y);
                if (d < least || (d == least && sum < leastSum)) {
                    least = d;
                    leastSum = sum;
                    remember(f.cords);
                }
            }
            row.size = 0;
            for (int i = 0; i < count; i++) {
                row.add(best[i]);
            }
            return least;
        }

        private int codes() {
            int codes = 1;
            for (int i = 0; i < count; i++) {
                codes *= PULLS;
            }
            return codes;
        }

        /** The first of the STRINGS has the highest digit, so that codes rise as the ROW does. */
        private int pullBy(int code, Cords cords) {
            int rest = code;
            int sum = 0;
            for (int i = count - 1; i >= 0; i--) {
                cords.pull[chosen[i]] = rest % PULLS;
                sum += rest % PULLS;
                rest /= PULLS;
            }
            return sum;
        }

        private void remember(Cords cords) {
            for (int i = 0; i < count; i++) {
                best[i] = cords.pull[chosen[i]];
            }
        }

        private static long square(long v) {
            return v * v;
        }
    }

    /** TELL-TALES and the sets of STRINGS that EXPLAIN them. */
    private static final class Tales {
        static final int MOST_TALES = 20;

        final int[] figures = new int[MOST_TALES];
        final int[] beats = new int[MOST_TALES];
        final int[] limbs = new int[MOST_TALES];
        final int[] headings = new int[MOST_TALES];
        /** The PULLS of all STRINGS behind the BEAT of each TELL-TALE; no break of a STRING changes them. */
        final int[] pulls = new int[MOST_TALES * MOST_STRINGS];
        int count;

        void add(int figure, int beat, int limb, int heading) {
            figures[count] = figure;
            beats[count] = beat;
            limbs[count] = limb;
            headings[count] = heading;
            count++;
        }

        void rehearse(int figure, Figure f, int rate) {
            f.cords.renew();
            for (int beat = 0; beat < MOST_SCORE_BEATS; beat++) {
                f.heed(beat);
                f.cords.moveAll(rate);
                for (int t = 0; t < count; t++) {
                    if (figures[t] == figure && beats[t] == beat) {
                        System.arraycopy(f.cords.pull, 0, pulls, t * MOST_STRINGS, MOST_STRINGS);
                    }
                }
            }
        }

        int explain(int figure, Figure f, Row row) {
            int fewest = MOST_STRINGS + 1;
            int sets = 0;
            int first = 0;
            for (int bits = 0; bits < 1 << f.cords.count; bits++) {
                int size = Integer.bitCount(bits);
                if (size > fewest || !explains(bits, figure, f)) {
                    continue;
                }
                if (size < fewest) {
                    fewest = size;
                    first = bits;
                    sets = 0;
                }
                sets++;
            }
            if (sets > 0) {
                row.size = 0;
                row.add(first);
            }
            return sets;
        }

        private boolean explains(int bits, int figure, Figure f) {
            for (int t = 0; t < count; t++) {
                if (figures[t] == figure && headingBehind(t, bits, f) != headings[t]) {
                    return false;
                }
            }
            return true;
        }

        private int headingBehind(int t, int bits, Figure f) {
            int sum = 0;
            for (int s = 0; s < f.cords.count; s++) {
                if ((bits >> s & 1) == 0 && f.cords.limb[s] == limbs[t]) {
                    sum += f.cords.side[s] * pulls[t * MOST_STRINGS + s];
                }
            }
            return f.headingFor(limbs[t], sum);
        }
    }
}
