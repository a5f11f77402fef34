/** Boundary cases of promises 20 to 27, with the words that they use in Terms 3 and 4. */
public final class FanEdgeTest {
    private static final int BAD = -2;
    private static final int HOT = -5;
    private static final int NO_VALUE = -1000000000;

    public static void main(String[] args) {
        promise20TheEnds();
        promise20CutTowardNothing();
        promise20TheMiddle();
        promise20AFanAnew();
        promise21TheCorners();
        promise22TheEnds();
        promise22TheLastLine();
        promise22TheFirstLine();
        promise22TheLastMean();
        promise22OnTheLastOnes();
        promise22AtTheTop();
        promise22CutTowardNothing();
        promise23TheRoots();
        promise23TheEnds();
        promise24TheEnds();
        promise25CutUp();
        promise25TheEnds();
        promise26EmptyAndFull();
        promise27Empty();
        promise27Full();
        promise27ItChangesNothing();
        Check.end("FanEdgeTest");
    }

    /** Sound so quick that each place is 0 .. 4 ticks away and hears 200 at least: what is 0 is beyond. */
    private static SoundBoard everywhere() {
        SoundBoard b = new SoundBoard();
        b.dead(1, true);
        b.pace(1000, 1);
        for (int k = 0; k < 8; k++) {
            b.point(-10, 1000 * (k % 5), 100, 0, 0);
        }
        b.look(0);
        return b;
    }

    private static void promise20TheEnds() {
        SoundBoard b = new SoundBoard();
        Check.due("promise 20: no look", b.fan(0, 2, 2, 1), BAD);
        b = everywhere();
        int[][] good = {{0, 2, 2, 1}, {0, 9, 2, 1}, {0, 2, 16, 1}, {0, 2, 2, 250}, {0, 9, 16, 250}, {0, 8, 16, 250}};
        for (int[] g : good) {
            Check.due("promise 20: taken", b.fan(g[0], g[1], g[2], g[3]), 1);
            for (int a = 0; a < g[1]; a++) {
                for (int k = 0; k < g[2]; k++) {
                    // No mean of a fan lies beyond what x, z may be: the farthest is at 1875, 3750.
                    Check.holds("promise 20: each mean is heard", b.fanAt(a, k) != 0);
                }
            }
        }
        int[][] bad = {{-1, 2, 2, 1}, {1, 2, 2, 1}, {0, 1, 2, 1}, {0, 10, 2, 1}, {0, 2, 1, 1}, {0, 2, 17, 1}, {0, 2, 2, 0},
            {0, 2, 2, 251}};
        for (int[] w : bad) {
            Check.due("promise 20: beyond", b.fan(w[0], w[1], w[2], w[3]), BAD);
            Check.holds("promise 20: the old fan stays", b.fanAt(7, 15) != NO_VALUE);
        }
        for (int n = 1; n < 7; n++) {
            b.look(0);
        }
        Check.due("promise 20: of the sixth look", b.fan(5, 2, 2, 1), 1);
        Check.due("promise 20: of a seventh", b.fan(6, 2, 2, 1), BAD);
    }

    private static void promise20CutTowardNothing() {
        // Ten ticks a step and one element right at the place: a step aside is 16 ticks or so too late.
        for (int side = -1; side <= 1; side += 2) {
            for (int k = 1; k <= 15; k++) {
                SoundBoard b = new SoundBoard();
                b.probe(2, side * (k / 8) - (side < 0 ? 0 : 1), 1);
                int i = side < 0 ? 0 : 1;
                b.dead(1 - i, true);
                b.pace(1, 12);
                b.point(side * (k / 8), k, 50, 0, 0);
                b.look(i);
                b.fan(0, 3, 16, 1);
                Check.due("promise 20: k r by 8, cut toward 0: " + side * k, b.fanAt(1 + side, k), 100);
            }
        }
    }

    private static void promise20TheMiddle() {
        // At step 8 a line's k-th mean is k for each line off the middle: where the point is, there is the line.
        int[] middles = {0, 0, 0, 1, 1, 2, 2, 3, 3, 4};
        for (int lines = 2; lines <= 9; lines++) {
            for (int a = 0; a < lines; a++) {
                int x = 15 * (a - middles[lines]);
                SoundBoard b = new SoundBoard();
                b.probe(2, x, 1);
                b.dead(1, true);
                b.point(x, 120, 50, 0, 0);
                b.look(0);
                b.fan(0, lines, 16, 8);
                Check.due("promise 20: line " + a + " of " + lines, b.fanAt(a, 15), 100);
                int heard = 0;
                for (int other = 0; other < lines; other++) {
                    heard += b.fanAt(other, 15) == 100 ? 1 : 0;
                }
                Check.due("promise 20: and no other line", heard, 1);
                Check.due("promise 20: no line more", b.fanAt(lines, 15), NO_VALUE);
            }
        }
    }

    private static void promise20AFanAnew() {
        SoundBoard b = everywhere();
        b.fan(0, 9, 16, 100);
        b.clear();
        b.look(0);
        Check.due("promise 20: of a look that heard nothing", b.fan(1, 9, 16, 100), 1);
        for (int a = 0; a < 9; a++) {
            for (int k = 0; k < 16; k++) {
                Check.due("promise 20: nothing of the old one", b.fanAt(a, k), 0);
            }
        }
        b.fan(0, 9, 16, 100);
        Check.due("promise 20: a smaller one", b.fan(0, 2, 3, 100), 1);
        Check.due("promise 20: no third line", b.fanAt(2, 0), NO_VALUE);
        Check.due("promise 20: no fourth mean", b.fanAt(0, 3), NO_VALUE);
        Check.due("promise 22: nothing beyond its last line", b.board(3, 3, 80, 2, 1), 0);
        Check.due("promise 22: nothing beyond its last mean", b.board(3, 3, 201, 1, 2), 0);
        Check.holds("promise 22: something within", b.board(3, 3, 80, 1, 2) != 0);
    }

    private static void promise21TheCorners() {
        SoundBoard b = everywhere();
        for (int what = -1; what <= 1; what++) {
            Check.due("promise 21: no fan", b.fanAt(what, 0), NO_VALUE);
            Check.due("promise 21: no fan", b.fanAt(0, what), NO_VALUE);
        }
        int[][] shapes = {{2, 2}, {9, 16}, {9, 2}, {2, 16}, {5, 7}};
        for (int[] s : shapes) {
            b.fan(0, s[0], s[1], 9);
            int[][] corners = {{0, 0}, {s[0] - 1, 0}, {0, s[1] - 1}, {s[0] - 1, s[1] - 1}};
            for (int[] c : corners) {
                Check.holds("promise 21: a corner is there", b.fanAt(c[0], c[1]) > 0);
            }
            int[][] beyond = {{-1, 0}, {0, -1}, {s[0], 0}, {0, s[1]}, {s[0] - 1, s[1]}, {s[0], s[1] - 1}};
            for (int[] w : beyond) {
                Check.due("promise 21: beyond a corner", b.fanAt(w[0], w[1]), NO_VALUE);
            }
        }
    }

    private static void promise22TheEnds() {
        SoundBoard b = everywhere();
        Check.due("promise 22: no fan", b.board(2, 2, 1, 0, 0), NO_VALUE);
        b.fan(0, 9, 16, 250);
        for (int w = 2; w <= 12; w++) {
            for (int h = 2; h <= 12; h++) {
                Check.holds("promise 22: the first square", b.board(w, h, 1, 0, 0) != NO_VALUE);
                Check.holds("promise 22: the last square", b.board(w, h, 1, w - 1, h - 1) != NO_VALUE);
                Check.due("promise 22: u is w", b.board(w, h, 1, w, 0), NO_VALUE);
                Check.due("promise 22: v is h", b.board(w, h, 1, 0, h), NO_VALUE);
                Check.due("promise 22: u is -1", b.board(w, h, 1, -1, 0), NO_VALUE);
                Check.due("promise 22: v is -1", b.board(w, h, 1, 0, -1), NO_VALUE);
            }
        }
        int[][] bad = {{1, 2, 1}, {13, 2, 1}, {2, 1, 1}, {2, 13, 1}, {2, 2, 0}, {2, 2, 501}};
        for (int[] w : bad) {
            Check.due("promise 22: beyond", b.board(w[0], w[1], w[2], 0, 0), NO_VALUE);
        }
        Check.holds("promise 22: s is 500", b.board(2, 2, 500, 0, 0) > 0);
        Check.due("promise 22: s is 500, far aside", b.board(12, 12, 500, 11, 1), 0);
    }

    private static void promise22TheLastLine() {
        // Three lines: a' is 16 and 128 x by z; the last line is 32. Each of these with its mirror at the first line, 0.
        int[][] squares = {
            // w, s, u, v, and whether it is seen: x 4, z 32 is just 16 to the right,
            {2, 8, 1, 4, 1}, {2, 8, 1, 3, 0},
            // x 7, z 55 is 16 and a bit, which is cut,
            {12, 5, 7, 11, 1},
            // x 2, z 15 is 17 and a bit.
            {12, 5, 6, 3, 0}, {12, 5, 6, 4, 1}};
        SoundBoard b = everywhere();
        b.fan(0, 3, 16, 5);
        for (int[] q : squares) {
            int right = b.board(q[0], 12, q[1], q[2], q[3]);
            int left = b.board(q[0], 12, q[1], q[0] - 1 - q[2], q[3]);
            Check.due("promise 22: on the last line, or beyond it", right != 0 ? 1 : 0, q[4]);
            Check.due("promise 22: on the first line, or a' below 0", left != 0 ? 1 : 0, q[4]);
        }
    }

    private static void promise22TheFirstLine() {
        // Two lines: m is 0, and all that is left of the first line is beyond.
        SoundBoard b = everywhere();
        b.fan(0, 2, 16, 5);
        for (int v = 1; v < 12; v++) {
            Check.holds("promise 22: a' is 0", b.board(3, 12, 5, 1, v) != 0);
            Check.due("promise 22: a' is below 0", b.board(3, 12, 5, 0, v), 0);
        }
        Check.holds("promise 22: x is 1 by 2, cut: a' is 0", b.board(2, 12, 1, 1, 9) != 0);
        Check.holds("promise 22: x is -1 by 2, cut toward 0: a' is 0", b.board(2, 12, 1, 0, 9) != 0);
        Check.due("promise 22: x is -1: a' is below 0", b.board(2, 12, 2, 0, 9), 0);
        Check.due("promise 22: x is -3 by 2, cut toward 0: a' is below 0", b.board(2, 12, 3, 0, 9), 0);
    }

    private static void promise22TheLastMean() {
        // k' of the last mean, and the greatest z that is cut to it.
        int[][] fans = {{2, 20, 20, 21, 22}, {2, 16, 16, 16, 17}, {16, 30, 450, 451, 452}, {2, 250, 250, 265, 266}};
        for (int[] f : fans) {
            SoundBoard b = everywhere();
            b.fan(0, 3, f[0], f[1]);
            int last = b.fanAt(1, f[0] - 1);
            Check.due("promise 22: on the last mean", b.board(3, 2, f[2], 1, 1), last);
            Check.due("promise 22: k' is cut to it", b.board(3, 2, f[3], 1, 1), last);
            Check.due("promise 22: k' is beyond it", b.board(3, 2, f[4], 1, 1), 0);
        }
    }

    private static void promise22OnTheLastOnes() {
        // A larger fan was here before: what would be beyond the last line and mean has share 0 all the same.
        SoundBoard b = everywhere();
        b.fan(0, 9, 16, 8);
        b.fan(0, 3, 5, 8);
        Check.due("promise 22: on the last line and the last mean", b.board(2, 5, 8, 1, 4), b.fanAt(2, 4));
        Check.due("promise 22: on the first line and the last mean", b.board(2, 5, 8, 0, 4), b.fanAt(0, 4));
        Check.due("promise 22: on the middle one", b.board(3, 5, 8, 1, 4), b.fanAt(1, 4));
        // Step 12: at z 32 k' is 42, two means and ten sixteenths of the way to the next.
        b.fan(0, 3, 9, 12);
        int due = (6 * 16 * b.fanAt(2, 2) + 10 * 16 * b.fanAt(2, 3)) / 256;
        Check.due("promise 22: on the last line, between two means", b.board(2, 5, 8, 1, 4), due);
        Check.holds("promise 22: which is heard", due != 0);
        // Step 10: at x 2, z 40 a' is 16 and 6; k' is 64, the last of five means.
        b.fan(0, 3, 5, 10);
        due = (10 * 16 * b.fanAt(1, 4) + 6 * 16 * b.fanAt(2, 4)) / 256;
        Check.due("promise 22: on the last mean, between two lines", b.board(2, 9, 5, 1, 8), due);
        Check.holds("promise 22: which is heard", due != 0);
    }

    private static void promise22AtTheTop() {
        // At z 0 all squares are on the middle line's first mean, even one far aside.
        for (int lines = 2; lines <= 9; lines++) {
            SoundBoard b = everywhere();
            b.fan(0, lines, 2, 1);
            for (int u = 0; u < 12; u++) {
                int due = b.fanAt((lines - 1) / 2, 0);
                Check.due("promise 22: z 0 with " + lines + " lines", b.board(12, 2, 500, u, 0), due);
                Check.holds("promise 22: it is heard", due > 0);
            }
        }
    }

    private static void promise22CutTowardNothing() {
        for (int strength = -3; strength <= 3; strength++) {
            SoundBoard b = new SoundBoard();
            b.probe(2, 0, 200);
            b.dead(1, true);
            b.point(0, 16, strength, 0, 0);
            b.look(0);
            b.fan(0, 3, 4, 16);
            Check.due("promise 21: one mean is heard", b.fanAt(1, 1), 2 * strength);
            Check.due("promise 21: none before it", b.fanAt(1, 0), 0);
            Check.due("promise 21: none behind it", b.fanAt(1, 2), 0);
            for (int z = 0; z <= 33; z++) {
                int sixteenths = Math.max(0, 16 - Math.abs(z - 16));
                int got = z == 0 ? b.board(3, 2, 1, 1, 0) : b.board(3, 2, z, 1, 1);
                Check.due("promise 22: shares at z " + z, got, 2 * strength * sixteenths * 16 / 256);
            }
        }
    }

    private static void promise23TheRoots() {
        SoundBoard b = new SoundBoard();
        // Around each whole root: a step aside at the same depth never reaches the next one.
        int[][] triples = {{3, 4, 5}, {5, 12, 13}, {8, 15, 17}, {20, 21, 29}, {2000, 1500, 2500}, {1600, 1200, 2000},
            {0, 4000, 4000}, {4000, 0, 4000}, {4000, 3000, 5000}, {1, 0, 1}, {0, 0, 0}};
        for (int[] t : triples) {
            Check.due("promise 23: a whole root", b.caliper(-2000, 0, t[0] - 2000, t[1]), t[2]);
            Check.due("promise 23: from the other one", b.caliper(t[0] - 2000, t[1], -2000, 0), t[2]);
            Check.due("promise 23: to the left", b.caliper(2000, t[1], 2000 - t[0], 0), t[2]);
            if (t[0] > 0) {
                Check.due("promise 23: a little less", b.caliper(-1999, 0, t[0] - 2000, t[1]), t[2] - 1);
            }
        }
        Check.due("promise 23: a little more", b.caliper(0, 0, 4, 4), 5);
        Check.due("promise 23: root of 2", b.caliper(0, 0, 1, 1), 1);
        Check.due("promise 23: root of 8", b.caliper(0, 0, 2, 2), 2);
    }

    private static void promise23TheEnds() {
        SoundBoard b = new SoundBoard();
        Check.due("promise 23: corner to corner", b.caliper(-2000, 0, 2000, 4000), 5656);
        Check.due("promise 23: the other two", b.caliper(2000, 0, -2000, 4000), 5656);
        int[][] beyond = {{-2001, 0, 0, 0}, {2001, 0, 0, 0}, {0, -1, 0, 0}, {0, 4001, 0, 0}, {0, 0, -2001, 0},
            {0, 0, 2001, 0}, {0, 0, 0, -1}, {0, 0, 0, 4001}};
        for (int[] w : beyond) {
            Check.due("promise 23: beyond", b.caliper(w[0], w[1], w[2], w[3]), BAD);
        }
    }

    private static void promise24TheEnds() {
        SoundBoard b = new SoundBoard();
        int[] caps = {0, 1000000, 1, 999999, 8};
        int was = 100000;
        for (int c : caps) {
            Check.due("promise 24: BAD below", b.cap(-1), BAD);
            Check.due("promise 24: BAD above", b.cap(1000001), BAD);
            Check.due("promise 24: what it was", b.cap(c), was);
            was = c;
        }
        Check.due("promise 24: at the cap", b.look(0), 1);
        Check.due("promise 24: below the heat", b.cap(0), 8);
        Check.due("promise 24: the heat stays", b.count(5), 8);
        Check.due("promise 24: the look stays", b.count(3), 1);
        Check.due("promise 24: one above", b.cap(15), 0);
        Check.due("promise 24: one above", b.look(0), HOT);
        Check.due("promise 24: enough", b.cap(16), 15);
        Check.due("promise 24: enough", b.look(0), 2);
    }

    /** A board with so much heat: eights and ones. */
    private static SoundBoard hot(int heat) {
        SoundBoard b = new SoundBoard();
        for (int n = 0; n < heat / 8; n++) {
            b.look(0);
        }
        b.dead(1, true);
        for (int n = 0; n < heat % 8; n++) {
            b.look(0);
        }
        return b;
    }

    private static void promise25CutUp() {
        for (int heat = 0; heat <= 200; heat++) {
            SoundBoard b = hot(heat);
            Check.due("promise 25: heat", b.count(5), heat);
            int cut = 0;
            while (32 * cut < heat) {
                cut++;
            }
            Check.due("promise 25: a thirty-second of " + heat + ", cut up", b.tick(1), heat - cut);
            Check.due("promise 25: is the heat", b.count(5), heat - cut);
        }
    }

    private static void promise25TheEnds() {
        SoundBoard b = hot(100);
        Check.due("promise 25: BAD", b.tick(0), BAD);
        Check.due("promise 25: BAD", b.tick(1001), BAD);
        Check.due("promise 25: they do not cool", b.count(5), 100);
        int heat = 100;
        for (int n = 1; n <= 60; n++) {
            heat = heat - heat / 32 - (heat % 32 > 0 ? 1 : 0);
            Check.due("promise 25: " + n + " times", hot(100).tick(n), heat);
            Check.due("promise 25: once more", b.tick(1), heat);
        }
        Check.due("promise 25: the last time", hot(100).tick(1000), 0);
        Check.due("promise 25: it is no less than 0", b.tick(1000), 0);
        Check.due("promise 25: nor after that", b.tick(1), 0);
        // 999 and 1000 times are not the same of this heat.
        SoundBoard c = new SoundBoard();
        c.probe(16, 0, 1);
        c.cap(1000000);
        for (int n = 0; n < 244; n++) {
            c.look(0);
        }
        Check.due("promise 25: all that the cap lets in", c.count(5), 999424);
        Check.due("promise 25: no more", c.look(0), HOT);
        int left = 999424;
        int times = 0;
        while (left > 0) {
            left -= (left + 31) / 32;
            times++;
        }
        Check.due("promise 25: one tick before the end", c.tick(times - 1), 1);
        Check.due("promise 25: the end", c.tick(1), 0);
    }

    private static void promise26EmptyAndFull() {
        SoundBoard b = new SoundBoard();
        Check.due("promise 26: what -1", b.count(-1), BAD);
        Check.due("promise 26: what 7", b.count(7), BAD);
        b.probe(16, 0, 1);
        b.dead(0, true);
        for (int n = 1; n <= 10; n++) {
            b.point(0, 0, 0, 0, 0);
            b.look(1);
            b.picture(1, 0, 0, 1, 1, 1, 1);
            int[] due = {16, 15, Math.min(n, 8), Math.min(n, 6), Math.min(n, 4), n * 15 * 15 * 15, n};
            for (int what = 0; what < due.length; what++) {
                Check.due("promise 26: count " + what, b.count(what), due[what]);
            }
        }
    }

    private static void promise27Empty() {
        long h = 131;
        int[] counts = {16, 15, 0, 0, 0, 0, 0};
        for (int count : counts) {
            h = 31 * h + count;
        }
        SoundBoard b = new SoundBoard();
        b.probe(16, -7, 3);
        b.dead(4, true);
        Check.due("promise 27: nothing but the counts", b.digest(), h);
        b.window(2, 5);
        b.cap(3);
        b.pace(3, 4);
        Check.due("promise 27: window, cap and pace are not in it", b.digest(), h);
    }

    private static void promise27Full() {
        SoundBoard b = new SoundBoard();
        b.dead(1, true);
        for (int n = 0; n < 9; n++) {
            b.point(-10, 10 + n, 1, 0, 0);
            b.look(0);
            b.clear();
        }
        for (int n = 0; n < 6; n++) {
            b.picture(1 << n, -10, 13 + n, 200, 1, 2, 1);
        }
        b.point(7, 8, 9, 10, 11);
        b.point(-7, 0, 9, 10, 11);
        long h = 131;
        long[] counts = {2, 1, 2, 6, 4, 9, 9, 7, 8, -7, 0};
        for (long v : counts) {
            h = 31 * h + v;
        }
        for (int n = 3; n < 9; n++) {
            // Samples d - 1, d, d + 1 by their number and 1: 4 times d + 1; the dead element's row is 0.
            long d = 2 * (10 + n);
            h = 31 * (31 * (31 * h + 0) + 4 * (d + 1)) + 0;
        }
        for (int p = 0; p < 4; p++) {
            h = 31 * (31 * h + 2) + 0;
        }
        Check.due("promise 27: from the oldest on, of looks and of pictures", b.digest(), h);
    }

    private static void promise27ItChangesNothing() {
        for (Boards.State state : Boards.ALL) {
            SoundBoard b = state.made().get();
            long first = b.digest();
            Check.due("promise 27: twice the same, " + state.name(), b.digest(), first);
            Check.due("promise 27: the same of its twin, " + state.name(), state.made().get().digest(), first);
            Check.holds("promise 27: it changes nothing, " + state.name(), Boards.seen(b).equals(Boards.seen(state.made().get())));
        }
    }
}
