/**
 * A row of small senders hears what echoes; rows summed by their delays let any point be looked at.
 * Every array is made once, with the object, and used again: no call makes a new one.
 */
public final class SoundBoard {
    public static final int NONE = -1, BAD = -2, NO = -3, FULL = -4, HOT = -5;

    private static final int X_MOST = 2000;
    private static final int Z_MOST = 4000;
    private static final int MOST_ELEMENTS = 16;
    private static final int NO_POINT = -5000;
    private static final int NO_SAMPLE = -1000000;
    private static final int NO_VALUE = -1000000000;
    private static final int NO_TURN = -100;
    private static final int OTHER_SENDER = -101;
    private static final int MOST_TURN = 8;
    private static final int TURN_REACH = 6;

    private final Probe elements;
    private final Scene scene;
    private final Looks heard;
    private final Ring ring;
    private final Fan laid;
    private final Power power;

    public SoundBoard() {
        elements = new Probe();
        scene = new Scene();
        heard = new Looks();
        ring = new Ring();
        laid = new Fan();
        power = new Power();
    }

    // ---- the probe

    public int probe(int n, int first, int pitch) {
        if (!within(n, 2, MOST_ELEMENTS) || !within(first, -X_MOST, X_MOST) || !within(pitch, 1, 200)) {
            return BAD;
        }
        if (first + (n - 1) * pitch > X_MOST) {
            return BAD;
        }
        elements.renew(n, first, pitch);
        heard.forget();
        ring.forget();
        power.heat = 0;
        return 1;
    }

    public int pace(int p, int q) {
        if (!within(p, 1, 1000) || !within(q, 1, 1000)) {
            return BAD;
        }
        if (heard.size > 0) {
            return NO;
        }
        elements.steps = p;
        elements.ticks = q;
        return 1;
    }

    public int dead(int i, boolean dead) {
        if (!elements.has(i)) {
            return BAD;
        }
        if (elements.isDead(i) == dead || (dead && elements.alive == 1)) {
            return NO;
        }
        elements.setDead(i, dead);
        return 1;
    }

    public int delay(int i, int x, int z) {
        if (!elements.has(i) || !isPlace(x, z)) {
            return BAD;
        }
        return elements.delayOf(i, x, z);
    }

    // ---- the scene

    public int point(int x, int z, int strength, int dx, int dz) {
        if (!isPlace(x, z) || !within(strength, -100, 100) || !within(dx, -200, 200) || !within(dz, -200, 200)) {
            return BAD;
        }
        if (scene.size >= Scene.MOST) {
            return FULL;
        }
        return scene.put(x, z, strength, dx, dz);
    }

    public int clear() {
        int gone = scene.size;
        scene.size = 0;
        return gone;
    }

    public int pointAt(int k, int what) {
        if (!scene.has(k)) {
            return NO_POINT;
        }
        switch (what) {
            case 0:
                return scene.xs[k];
            case 1:
                return scene.zs[k];
            case 2:
                return scene.strengths[k];
            default:
                return NO_POINT;
        }
    }

    // ---- looks

    public int look(int sender) {
        if (!elements.has(sender)) {
            return BAD;
        }
        if (elements.isDead(sender)) {
            return NO;
        }
        int warmth = elements.alive * elements.alive * elements.alive;
        if (power.heat + warmth > power.most) {
            return HOT;
        }
        power.heat += warmth;
        int newest = heard.begin(sender);
        for (int k = 0; k < scene.size; k++) {
            hear(newest, k);
        }
        scene.move();
        return heard.size;
    }

    /** Every element that is alive hears point k of the scene. */
    private void hear(int look, int k) {
        if (!scene.has(k)) {
            return;
        }
        int strength = scene.strengths[k];
        elements.aim(scene.xs[k], scene.zs[k]);
        int out = elements.aimedDelay(heard.senderOf(look));
        for (int i = 0; i < elements.size; i++) {
            if (!elements.isDead(i)) {
                int d = out + elements.aimedDelay(i);
                heard.louder(look, i, d - 1, strength);
                heard.louder(look, i, d, 2 * strength);
                heard.louder(look, i, d + 1, strength);
            }
        }
    }

    public int sample(int look, int i, int s) {
        if (!heard.has(look) || !elements.has(i) || !within(s, 0, Looks.SAMPLES - 1)) {
            return NO_SAMPLE;
        }
        return heard.at(look, i, s);
    }

    // ---- sums

    public int window(int w, int f) {
        if (!within(w, 0, 2) || !within(f, 1, 9)) {
            return BAD;
        }
        int before = elements.window;
        elements.window = w;
        elements.narrowness = f;
        return before;
    }

    public int weight(int i, int x, int z) {
        if (!elements.has(i) || !isPlace(x, z)) {
            return BAD;
        }
        return elements.weightOf(i, x, z);
    }

    public int sum(int look, int x, int z) {
        if (!heard.has(look) || !isPlace(x, z)) {
            return NO_VALUE;
        }
        elements.aim(x, z);
        return aimedSum(look);
    }

    public int mean(int looks, int x, int z) {
        if (!areLooks(looks) || !isPlace(x, z)) {
            return NO_VALUE;
        }
        return joinedMean(looks, x, z);
    }

    /** The sum of one look at the point that the elements aim at. */
    private int aimedSum(int look) {
        int out = elements.aimedDelay(heard.senderOf(look));
        int total = 0;
        for (int i = 0; i < elements.size; i++) {
            int weight = elements.aimedWeight(i);
            if (weight != 0) {
                total += weight * heard.at(look, i, out + elements.aimedDelay(i));
            }
        }
        return total;
    }

    /** The mean of joined looks; a point that is beyond what x, z may be has 0. */
    private int joinedMean(int bits, int x, int z) {
        if (!isPlace(x, z)) {
            return 0;
        }
        elements.aim(x, z);
        int total = 0;
        int weights = 0;
        for (int look = 0; look < heard.size; look++) {
            if ((bits >> look & 1) != 0) {
                total += aimedSum(look);
                weights += elements.aimedTotal;
            }
        }
        return weights == 0 ? 0 : total / weights;
    }

    // ---- pictures

    public int picture(int looks, int x0, int z0, int sx, int sz, int w, int h) {
        if (!areLooks(looks) || !isPlace(x0, z0) || !within(sx, 1, 500) || !within(sz, 1, 500)) {
            return BAD;
        }
        if (!within(w, 1, Ring.SIDE) || !within(h, 1, Ring.SIDE)) {
            return BAD;
        }
        int newest = ring.begin(w, h);
        for (int l = 0; l < h; l++) {
            for (int k = 0; k < w; k++) {
                ring.set(newest, k + w * l, joinedMean(looks, x0 + k * sx, z0 + l * sz));
            }
        }
        return ring.size;
    }

    public int pixel(int p, int k, int l) {
        if (!ring.has(p)) {
            return NO_VALUE;
        }
        int slot = ring.slotOf(p);
        int w = ring.widthOf(slot);
        if (!within(k, 0, w - 1) || !within(l, 0, ring.heightOf(slot) - 1)) {
            return NO_VALUE;
        }
        return ring.get(slot, k + w * l);
    }

    public int about(int p, int what) {
        if (!ring.has(p)) {
            return BAD;
        }
        int slot = ring.slotOf(p);
        switch (what) {
            case 0:
                return ring.widthOf(slot);
            case 1:
                return ring.heightOf(slot);
            case 2:
                return ring.get(slot, ring.firstGreatest(slot));
            case 3:
                return ring.firstGreatest(slot);
            default:
                return BAD;
        }
    }

    public int differ(int p, int q) {
        if (!ring.has(p) || !ring.has(q)) {
            return BAD;
        }
        int one = ring.slotOf(p);
        int other = ring.slotOf(q);
        int w = ring.widthOf(one);
        int h = ring.heightOf(one);
        if (w != ring.widthOf(other) || h != ring.heightOf(other)) {
            return NO;
        }
        // The new picture may take the place of p or q itself: each pixel is read just before it is set.
        int newest = ring.begin(w, h);
        for (int index = 0; index < w * h; index++) {
            ring.set(newest, index, ring.get(one, index) - ring.get(other, index));
        }
        return ring.size;
    }

    // ---- the turn of two looks

    public int turn(int look, int other, int x, int z) {
        if (!heard.has(look) || !heard.has(other) || !isPlace(x, z)) {
            return NO_TURN;
        }
        if (heard.senderOf(look) != heard.senderOf(other)) {
            return OTHER_SENDER;
        }
        elements.aim(x, z);
        int best = 0;
        int greatest = likeness(look, other, 0);
        for (int size = 1; size <= MOST_TURN; size++) {
            for (int side = -1; side <= 1; side += 2) {
                int found = likeness(look, other, side * size);
                if (found > greatest) {
                    greatest = found;
                    best = side * size;
                }
            }
        }
        return best;
    }

    /** How much one look is like the other one s samples later, around the point that the elements aim at. */
    private int likeness(int look, int other, int s) {
        int out = elements.aimedDelay(heard.senderOf(look));
        int total = 0;
        for (int i = 0; i < elements.size; i++) {
            int d = out + elements.aimedDelay(i);
            for (int t = -TURN_REACH; t <= TURN_REACH; t++) {
                int here = heard.at(look, i, d + t);
                if (here != 0) {
                    total += here * heard.at(other, i, d + t + s);
                }
            }
        }
        return total;
    }

    // ---- the fan

    public int fan(int look, int lines, int means, int r) {
        if (!heard.has(look) || !within(lines, 2, Fan.LINES) || !within(means, 2, Fan.MEANS) || !within(r, 1, 250)) {
            return BAD;
        }
        laid.begin(lines, means, r);
        for (int a = 0; a < lines; a++) {
            for (int k = 0; k < means; k++) {
                laid.set(a, k, joinedMean(1 << look, laid.xOf(a, k), k * r));
            }
        }
        return 1;
    }

    public int fanAt(int a, int k) {
        if (!laid.has(a, k)) {
            return NO_VALUE;
        }
        return laid.get(a, k);
    }

    public int board(int w, int h, int s, int u, int v) {
        if (!within(w, 2, 12) || !within(h, 2, 12) || !within(s, 1, 500)) {
            return NO_VALUE;
        }
        if (!within(u, 0, w - 1) || !within(v, 0, h - 1) || laid.lines == 0) {
            return NO_VALUE;
        }
        return laid.laidAt(s * (2 * u - w + 1) / 2, s * v);
    }

    // ---- the rest

    public int caliper(int x, int z, int ox, int oz) {
        if (!isPlace(x, z) || !isPlace(ox, oz)) {
            return BAD;
        }
        long across = Math.abs(x - ox);
        long down = Math.abs(z - oz);
        return (int) root(across * across + down * down, across + down);
    }

    public int cap(int c) {
        if (!within(c, 0, 1000000)) {
            return BAD;
        }
        int before = power.most;
        power.most = c;
        return before;
    }

    public int tick(int n) {
        if (!within(n, 1, 1000)) {
            return BAD;
        }
        for (int i = 0; i < n; i++) {
            power.cool();
        }
        return power.heat;
    }

    public int count(int what) {
        switch (what) {
            case 0:
                return elements.size;
            case 1:
                return elements.alive;
            case 2:
                return scene.size;
            case 3:
                return heard.size;
            case 4:
                return ring.size;
            case 5:
                return power.heat;
            case 6:
                return heard.ever;
            default:
                return BAD;
        }
    }

    public long digest() {
        long h = 131;
        for (int what = 0; what <= 6; what++) {
            h = 31 * h + count(what);
        }
        for (int k = 0; k < scene.size; k++) {
            h = 31 * h + pointAt(k, 0);
            h = 31 * h + pointAt(k, 1);
        }
        for (int look = 0; look < heard.size; look++) {
            h = 31 * h + heard.senderOf(look);
            for (int i = 0; i < elements.size; i++) {
                h = 31 * h + heard.rowSum(look, i);
            }
        }
        return ring.digestOn(h);
    }

    // ---- what all of them use

    private static boolean within(int value, int least, int most) {
        return value >= least && value <= most;
    }

    private static boolean isPlace(int x, int z) {
        return within(x, -X_MOST, X_MOST) && within(z, 0, Z_MOST);
    }

    private boolean areLooks(int bits) {
        return bits > 0 && bits >> heard.size == 0;
    }

    /**
     * The greatest whole number whose square is no greater than square, by Newton's way down from start,
     * which must be no less than the root; a start less than twice the root is there in some six steps.
     */
    private static long root(long square, long start) {
        long guess = start;
        for (int step = 0; step < 100 && guess > 0; step++) {
            long next = (guess + square / guess) / 2;
            if (next >= guess) {
                return guess;
            }
            guess = next;
        }
        return guess;
    }

    /** The elements, the pace of sound, and the window by which elements are weighed. */
    private static final class Probe {
        final int[] xs;
        final boolean[] deads;
        // What aim found, so that several looks at one point share the roots.
        final int[] aimedDelays;
        final int[] aimedWeights;
        int aimedTotal;
        int size;
        int alive;
        int steps;
        int ticks;
        int window;
        int narrowness;

        Probe() {
            xs = new int[MOST_ELEMENTS];
            deads = new boolean[MOST_ELEMENTS];
            aimedDelays = new int[MOST_ELEMENTS];
            aimedWeights = new int[MOST_ELEMENTS];
            steps = 1;
            ticks = 1;
            window = 0;
            narrowness = 2;
            renew(2, -10, 20);
        }

        void renew(int n, int first, int pitch) {
            size = Math.max(0, Math.min(n, MOST_ELEMENTS));
            alive = size;
            for (int i = 0; i < size; i++) {
                xs[i] = first + i * pitch;
                deads[i] = false;
            }
        }

        boolean has(int i) {
            return i >= 0 && i < size && i < MOST_ELEMENTS;
        }

        boolean isDead(int i) {
            return has(i) && deads[i];
        }

        void setDead(int i, boolean dead) {
            if (has(i)) {
                deads[i] = dead;
                alive += dead ? -1 : 1;
            }
        }

        int gap(int i, int x) {
            return has(i) ? Math.abs(xs[i] - x) : 0;
        }

        int delayOf(int i, int x, int z) {
            if (steps < 1) {
                return 0;
            }
            long gap = gap(i, x);
            long deep = z;
            // Twice the way in ticks: the half that rounding adds is then whole, and no fraction is lost.
            long twice = root(4L * ticks * ticks * (gap * gap + deep * deep), 2L * ticks * (gap + deep));
            return (int) ((twice + steps) / (2L * steps));
        }

        int weightOf(int i, int x, int z) {
            if (!has(i) || isDead(i)) {
                return 0;
            }
            if (window == 0 || narrowness < 1) {
                return 1;
            }
            int reach = z / narrowness;
            int gap = gap(i, x);
            if (gap > reach) {
                return 0;
            }
            return window == 1 ? 1 : reach - gap + 1;
        }

        void aim(int x, int z) {
            aimedTotal = 0;
            for (int i = 0; i < size && i < MOST_ELEMENTS; i++) {
                aimedDelays[i] = delayOf(i, x, z);
                aimedWeights[i] = weightOf(i, x, z);
                aimedTotal += aimedWeights[i];
            }
        }

        int aimedDelay(int i) {
            return has(i) ? aimedDelays[i] : 0;
        }

        int aimedWeight(int i) {
            return has(i) ? aimedWeights[i] : 0;
        }
    }

    /** The points that echo. */
    private static final class Scene {
        static final int MOST = 8;
        final int[] xs;
        final int[] zs;
        final int[] strengths;
        final int[] dxs;
        final int[] dzs;
        int size;

        Scene() {
            xs = new int[MOST];
            zs = new int[MOST];
            strengths = new int[MOST];
            dxs = new int[MOST];
            dzs = new int[MOST];
        }

        boolean has(int k) {
            return k >= 0 && k < size && k < MOST;
        }

        int put(int x, int z, int strength, int dx, int dz) {
            if (size < 0 || size >= MOST) {
                return FULL;
            }
            xs[size] = x;
            zs[size] = z;
            strengths[size] = strength;
            dxs[size] = dx;
            dzs[size] = dz;
            size++;
            return size - 1;
        }

        void move() {
            for (int k = 0; k < size && k < MOST; k++) {
                xs[k] = Math.max(-X_MOST, Math.min(xs[k] + dxs[k], X_MOST));
                zs[k] = Math.max(0, Math.min(zs[k] + dzs[k], Z_MOST));
            }
        }
    }

    /** What was heard: the rows of the looks that are kept, all in one array. */
    private static final class Looks {
        static final int MOST = 6;
        static final int SAMPLES = 400;
        static final int SLOT = MOST_ELEMENTS * SAMPLES;
        final int[] samples;
        final int[] senders;
        int oldest;
        int size;
        int ever;

        Looks() {
            samples = new int[MOST * SLOT];
            senders = new int[MOST];
        }

        void forget() {
            oldest = 0;
            size = 0;
        }

        boolean has(int look) {
            return look >= 0 && look < size;
        }

        /** Makes room for a look, by the oldest one's going if need be; answers its number. */
        int begin(int sender) {
            if (size >= MOST) {
                oldest = (oldest + 1) % MOST;
            } else {
                size++;
            }
            ever++;
            int slot = slotOf(size - 1);
            senders[slot] = sender;
            for (int index = slot * SLOT; index < slot * SLOT + SLOT; index++) {
                samples[index] = 0;
            }
            return size - 1;
        }

        /** A place in senders whatever is asked: floorMod by their number answers no other. */
        int slotOf(int look) {
            return Math.floorMod(oldest + look, MOST);
        }

        int senderOf(int look) {
            return senders[slotOf(look)];
        }

        /** Where a sample is in the array, or NONE for what is beyond its elements. */
        int placeOf(int look, int i, int s) {
            if (s < 0 || s >= SAMPLES || i < 0 || i >= MOST_ELEMENTS) {
                return NONE;
            }
            return slotOf(look) * SLOT + i * SAMPLES + s;
        }

        int at(int look, int i, int s) {
            int place = placeOf(look, i, s);
            return place < 0 ? 0 : samples[place];
        }

        void louder(int look, int i, int s, int more) {
            int place = placeOf(look, i, s);
            if (place >= 0) {
                samples[place] += more;
            }
        }

        /** The sum of a row's samples, each times its number and 1. */
        long rowSum(int look, int i) {
            int start = placeOf(look, i, 0);
            if (start < 0 || start + SAMPLES > samples.length) {
                return 0;
            }
            long total = 0;
            for (int s = 0; s < SAMPLES; s++) {
                total += (s + 1L) * samples[start + s];
            }
            return total;
        }
    }

    /** The pictures that are kept, all in one array. */
    private static final class Ring {
        static final int MOST = 4;
        static final int SIDE = 16;
        static final int SLOT = SIDE * SIDE;
        final int[] pixels;
        final int[] widths;
        final int[] heights;
        int oldest;
        int size;

        Ring() {
            pixels = new int[MOST * SLOT];
            widths = new int[MOST];
            heights = new int[MOST];
        }

        void forget() {
            oldest = 0;
            size = 0;
        }

        boolean has(int p) {
            return p >= 0 && p < size;
        }

        /** Makes room for a picture, by the oldest one's going if need be; answers its slot. */
        int begin(int w, int h) {
            if (size >= MOST) {
                oldest = (oldest + 1) % MOST;
            } else {
                size++;
            }
            int slot = slotOf(size - 1);
            widths[slot] = w;
            heights[slot] = h;
            return slot;
        }

        /** A place in widths and heights whatever is asked: floorMod by their number answers no other. */
        int slotOf(int p) {
            return Math.floorMod(oldest + p, MOST);
        }

        boolean isSlot(int slot) {
            return slot >= 0 && slot < MOST;
        }

        int widthOf(int slot) {
            return isSlot(slot) ? widths[slot] : 0;
        }

        int heightOf(int slot) {
            return isSlot(slot) ? heights[slot] : 0;
        }

        int get(int slot, int index) {
            return isSlot(slot) && index >= 0 && index < SLOT ? pixels[slot * SLOT + index] : 0;
        }

        void set(int slot, int index, int value) {
            if (isSlot(slot) && index >= 0 && index < SLOT) {
                pixels[slot * SLOT + index] = value;
            }
        }

        int firstGreatest(int slot) {
            int first = 0;
            for (int index = 1; index < widthOf(slot) * heightOf(slot); index++) {
                if (get(slot, index) > get(slot, first)) {
                    first = index;
                }
            }
            return first;
        }

        long digestOn(long before) {
            long h = before;
            for (int p = 0; p < size; p++) {
                int slot = slotOf(p);
                for (int index = 0; index < widthOf(slot) * heightOf(slot); index++) {
                    h = 31 * h + get(slot, index);
                }
            }
            return h;
        }
    }

    /** The fan's means as they were when it was made; no lines: there is no fan. */
    private static final class Fan {
        static final int LINES = 9;
        static final int MEANS = 16;
        final int[] values;
        int lines;
        int means;
        int step;

        Fan() {
            values = new int[LINES * MEANS];
            step = 1;
        }

        void begin(int newLines, int newMeans, int r) {
            lines = newLines;
            means = newMeans;
            step = r;
        }

        boolean has(int a, int k) {
            return a >= 0 && a < lines && a < LINES && k >= 0 && k < means && k < MEANS;
        }

        int get(int a, int k) {
            return has(a, k) ? values[a * MEANS + k] : 0;
        }

        void set(int a, int k, int value) {
            if (has(a, k)) {
                values[a * MEANS + k] = value;
            }
        }

        int middle() {
            return (lines - 1) / 2;
        }

        int xOf(int a, int k) {
            return k * step * (a - middle()) / 8;
        }

        /** What the fan has at a place of the board, by sixteenths between its lines and its means. */
        int laidAt(int x, int z) {
            if (step < 1) {
                return 0;
            }
            int deep = 16 * z / step;
            int wide = 16 * middle() + (z == 0 ? 0 : 128 * x / z);
            if (wide < 0 || wide > 16 * (lines - 1) || deep < 0 || deep > 16 * (means - 1)) {
                return 0;
            }
            int k = deep / 16;
            int f = deep % 16;
            int a = wide / 16;
            int g = wide % 16;
            int nearer = (16 - g) * (16 - f) * get(a, k) + g * (16 - f) * get(a + 1, k);
            int farther = (16 - g) * f * get(a, k + 1) + g * f * get(a + 1, k + 1);
            return (nearer + farther) / 256;
        }
    }

    /** The heat of the looks, and the cap that it stays below. */
    private static final class Power {
        int heat;
        int most;

        Power() {
            heat = 0;
            most = 100000;
        }

        void cool() {
            heat -= (heat + 31) / 32;
        }
    }
}
