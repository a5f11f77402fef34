/** Boundary cases of promises 1 to 10, with the words that they use in Terms 1 and 4. */
public final class ProbeEdgeTest {
    private static final int BAD = -2;
    private static final int NO = -3;
    private static final int FULL = -4;
    private static final int HOT = -5;

    public static void main(String[] args) {
        promise1TheNewBoard();
        promise2TheEndsOfTheRow();
        promise2AllAnew();
        promise3WithAndWithoutLooks();
        promise4TheLastOneAlive();
        promise5Nearest();
        promise5AsNearToBoth();
        promise6EightPoints();
        promise7EmptyAndFull();
        promise8TheFirstAndTheLast();
        promise9HeldWithinTheBounds();
        promise9TheSeventh();
        promise9TheCap();
        promise10TheEndsOfARow();
        promise10NothingAheadOfARow();
        promise10RowsBeginWithNothing();
        promise10FarBeyondTheRow();
        Check.end("ProbeEdgeTest");
    }

    private static void promise1TheNewBoard() {
        SoundBoard b = new SoundBoard();
        Check.due("promise 1: two elements", b.delay(2, 0, 0), BAD);
        Check.due("promise 1: the first at -10", b.delay(0, -10, 0), 0);
        Check.due("promise 1: the second at 10", b.delay(1, 10, 0), 0);
        Check.due("promise 1: P, Q 1, near", b.delay(0, -10, 1), 1);
        Check.due("promise 1: P, Q 1, far", b.delay(0, -10, 4000), 4000);
        Check.due("promise 1: both alive", b.dead(0, false) + b.dead(1, false), NO + NO);
        Check.due("promise 1: no scene", b.clear(), 0);
        Check.due("promise 1: window 0", b.weight(0, 2000, 0) + b.weight(1, -2000, 0), 2);
        Check.due("promise 1: no heat", b.tick(1), 0);
        // Heat comes to the cap by looks alone: 24 of 16 elements, then fewer and fewer.
        b.probe(16, 0, 1);
        int[][] steps = {{16, 24}, {11, 1}, {7, 1}, {2, 2}, {1, 6}};
        int alive = 16;
        int looks = 0;
        for (int[] step : steps) {
            while (alive > step[0]) {
                alive--;
                b.dead(alive, true);
            }
            for (int n = 0; n < step[1]; n++) {
                looks++;
                Check.due("promise 1: below the cap of 100000", b.look(0), Math.min(looks, 6));
            }
            Check.due("promise 1: one more of " + alive + " is above it", b.look(0), HOT);
        }
        Check.due("promise 1: heat at the cap", b.count(5), 100000);
    }

    private static void promise2TheEndsOfTheRow() {
        SoundBoard b = new SoundBoard();
        int[][] good = {{2, -2000, 1}, {2, -2000, 200}, {16, -2000, 200}, {2, 1999, 1}, {2, 1800, 200}, {16, 1985, 1},
            {16, -1000, 200}, {3, 1800, 100}};
        for (int[] g : good) {
            Check.due("promise 2: taken", b.probe(g[0], g[1], g[2]), 1);
            for (int i = 0; i < g[0]; i++) {
                Check.due("promise 2: element " + i + " by pitch", b.delay(i, g[1] + i * g[2], 0), 0);
            }
            Check.due("promise 2: no element more", b.delay(g[0], 0, 0), BAD);
        }
        int[][] bad = {{1, 0, 1}, {17, 0, 1}, {2, -2001, 1}, {2, 0, 0}, {2, 0, 201}, {2, 2000, 1}, {2, 1801, 200},
            {16, 1986, 1}, {16, -999, 200}, {3, 1801, 100}};
        for (int[] w : bad) {
            Check.due("promise 2: refused", b.probe(w[0], w[1], w[2]), BAD);
            Check.due("promise 2: the old one stays", b.delay(2, 2000, 0), 0);
        }
    }

    private static void promise2AllAnew() {
        SoundBoard b = new SoundBoard();
        b.point(-10, 73, 1, 0, 1);
        b.dead(1, true);
        b.pace(2, 4);
        b.window(1, 5);
        b.cap(777);
        for (int n = 0; n < 8; n++) {
            b.look(0);
            b.picture(1, 0, 0, 1, 1, n + 1, 1);
        }
        // The last look heard the point at -10, 80, where line 0 of four lines has its second mean.
        b.fan(5, 4, 2, 80);
        Check.due("promise 2: the same probe", b.probe(2, -10, 20), 1);
        Check.due("promise 2: alive", b.count(1), 2);
        Check.due("promise 2: the dead one is alive", b.weight(1, 10, 0), 1);
        Check.due("promise 2: and is so already", b.dead(1, false), NO);
        Check.due("promise 2: looks go", b.count(3), 0);
        Check.due("promise 2: looks go", b.sample(0, 0, 0), -1000000);
        Check.due("promise 2: looks go", b.mean(1, 0, 0), -1000000000);
        Check.due("promise 2: pictures go", b.count(4), 0);
        Check.due("promise 2: pictures go", b.about(0, 0), BAD);
        Check.due("promise 2: heat is 0", b.count(5), 0);
        Check.due("promise 2: the scene is not named", b.pointAt(0, 1), 81);
        Check.due("promise 2: looks ever are not named", b.count(6), 8);
        Check.due("promise 2: window and F are not named", b.weight(0, -7, 15), 1);
        Check.due("promise 2: window and F are not named", b.weight(0, -6, 15), 0);
        Check.due("promise 2: the pace is not named", b.delay(0, -10, 7), 14);
        Check.due("promise 2: the cap is not named", b.cap(56), 777);
        Check.due("promise 2: the fan is not named", b.fanAt(0, 1), 2);
        // The rows of looks and the ring were in the middle of their way around; now both begin anew.
        for (int n = 1; n <= 7; n++) {
            Check.due("promise 2: looks begin anew", b.look(0), Math.min(n, 6));
            Check.due("promise 2: what the newest heard", b.sample(Math.min(n, 6) - 1, 0, 4 * (80 + n)), 2);
            Check.due("promise 2: pictures begin anew", b.picture(1, 0, 0, 1, 1, 1, n), Math.min(n, 4));
            Check.due("promise 2: the first picture", b.about(0, 1), Math.max(1, n - 3));
        }
        Check.due("promise 2: the oldest look is the second", b.sample(0, 0, 4 * 82), 2);
        Check.due("promise 2: heat begins anew", b.count(5), 7 * 8);
    }

    private static void promise3WithAndWithoutLooks() {
        SoundBoard b = new SoundBoard();
        int[][] good = {{1, 1}, {1, 1000}, {1000, 1}, {1000, 1000}};
        int[] due = {20, 20000, 0, 20};
        for (int n = 0; n < 4; n++) {
            Check.due("promise 3: taken", b.pace(good[n][0], good[n][1]), 1);
            Check.due("promise 3: by it", b.delay(0, -10, 20), due[n]);
        }
        Check.due("promise 3: a look", b.look(0), 1);
        Check.due("promise 3: one look is enough", b.pace(1, 1), NO);
        Check.due("promise 3: BAD first", b.pace(1001, 1), BAD);
        Check.due("promise 3: a refused pace changes nothing", b.delay(0, -10, 20), 20);
        b.probe(2, -10, 20);
        Check.due("promise 3: the probe let them go", b.pace(1, 2), 1);
        b.cap(0);
        Check.due("promise 3: a refused look", b.look(0), HOT);
        Check.due("promise 3: is none", b.pace(1, 3), 1);
        Check.due("promise 3: by it", b.delay(0, -10, 20), 60);
    }

    private static void promise4TheLastOneAlive() {
        SoundBoard b = new SoundBoard();
        b.probe(16, 0, 1);
        for (int i = 0; i < 15; i++) {
            Check.due("promise 4: the first dies", b.dead(i, true), 1);
            Check.due("promise 4: it is so", b.dead(i, true), NO);
            Check.due("promise 4: fewer are alive", b.count(1), 15 - i);
        }
        Check.due("promise 4: the last one that is alive", b.dead(15, true), NO);
        Check.due("promise 4: it stays alive", b.weight(15, 0, 0), 1);
        Check.due("promise 4: it is alive already", b.dead(15, false), NO);
        Check.due("promise 4: it may send", b.look(15), 1);
        Check.due("promise 4: the first lives again", b.dead(0, false), 1);
        Check.due("promise 4: two are alive", b.count(1), 2);
        Check.due("promise 4: now the other one is not the last", b.dead(15, true), 1);
        Check.due("promise 4: the first is now", b.dead(0, true), NO);
        Check.due("promise 4: no element 16", b.dead(16, false), BAD);
        Check.due("promise 4: no element -1", b.dead(-1, true), BAD);
    }

    /** Twice a delay less 1, by P, is no more than twice Q times the root; twice a delay and 1 is more. */
    private static void promise5Nearest() {
        int[][] paces = {{1, 1}, {2, 1}, {1000, 1}, {1, 1000}, {1000, 999}, {999, 1000}, {7, 3}, {3, 1000}, {997, 10}};
        SoundBoard b = new SoundBoard();
        b.probe(2, -2000, 1);
        int off = 0;
        for (int[] pace : paces) {
            b.pace(pace[0], pace[1]);
            for (int x = -2000; x <= 2000; x += 97) {
                for (int z = 0; z <= 4000; z += 89) {
                    long square = 4L * pace[1] * pace[1] * ((x + 2000L) * (x + 2000L) + (long) z * z);
                    long twice = 2L * b.delay(0, x, z);
                    long below = Math.max(0, (twice - 1) * pace[0]);
                    long above = (twice + 1) * pace[0];
                    off += below * below <= square && above * above > square ? 0 : 1;
                }
            }
        }
        Check.due("promise 5: delays that are not the nearest", off, 0);
    }

    private static void promise5AsNearToBoth() {
        SoundBoard b = new SoundBoard();
        int[][] halves = {{2, 1, 3, 2}, {2, 1, 1, 1}, {1000, 1, 500, 1}, {1000, 1, 3500, 4}, {1000, 500, 1, 1},
            {1000, 500, 3999, 2000}, {4, 2, 3, 2}, {6, 1, 3, 1}, {10, 3, 5, 2}, {998, 499, 7, 4}};
        for (int[] h : halves) {
            b.pace(h[0], h[1]);
            Check.due("promise 5: of two as near the greater", b.delay(0, -10, h[2]), h[3]);
        }
        b.pace(1000, 1);
        Check.due("promise 5: a step less is nearer to 0", b.delay(0, -10, 499), 0);
        Check.due("promise 5: by both distances", b.delay(0, 290, 400), 1);
        Check.due("promise 5: from the other side", b.delay(0, -310, 400), 1);
        Check.due("promise 5: a little less", b.delay(0, 289, 400), 0);
        b.pace(1, 1);
        Check.due("promise 5: here", b.delay(0, -10, 0), 0);
        b.probe(2, -2000, 1);
        Check.due("promise 5: the ends of x and z", b.delay(0, 2000, 4000), 5657);
        Check.due("promise 5: the ends of x and z", b.delay(0, -2000, 4000), 4000);
        Check.due("promise 5: the ends of x and z", b.delay(0, 2000, 0), 4000);
        int[][] beyond = {{-2001, 0}, {2001, 0}, {0, -1}, {0, 4001}};
        for (int[] place : beyond) {
            Check.due("promise 5: beyond them", b.delay(0, place[0], place[1]), BAD);
        }
    }

    private static void promise6EightPoints() {
        SoundBoard b = new SoundBoard();
        for (int round = 0; round < 2; round++) {
            for (int k = 0; k < 8; k++) {
                Check.due("promise 6: its number", b.point(k, 2 * k, 3 * k, 4 * k, 5 * k), k);
            }
            Check.due("promise 6: the ninth", b.point(100, 100, 100, 100, 100), FULL);
            Check.due("promise 6: the ninth, BAD first", b.point(100, 100, 101, 100, 100), BAD);
            Check.due("promise 6: the eighth stays", b.pointAt(7, 0), 7);
            Check.due("promise 6: there are eight", b.count(2), 8);
            Check.due("promise 6: room again", b.clear(), 8);
        }
        int[][] ends = {{-2000, 0, -100, -200, -200}, {2000, 4000, 100, 200, 200}};
        for (int k = 0; k < 2; k++) {
            Check.due("promise 6: the ends", b.point(ends[k][0], ends[k][1], ends[k][2], ends[k][3], ends[k][4]), k);
            for (int what = 0; what < 3; what++) {
                Check.due("promise 6: are kept", b.pointAt(k, what), ends[k][what]);
            }
        }
        for (int place = 0; place < 5; place++) {
            for (int k = 0; k < 2; k++) {
                int[] a = ends[k].clone();
                a[place] += k == 0 ? -1 : 1;
                Check.due("promise 6: beyond an end", b.point(a[0], a[1], a[2], a[3], a[4]), BAD);
            }
        }
        Check.due("promise 6: those are not kept", b.count(2), 2);
    }

    private static void promise7EmptyAndFull() {
        SoundBoard b = new SoundBoard();
        Check.due("promise 7: none goes", b.clear(), 0);
        b.point(1, 1, 1, 1, 1);
        Check.due("promise 7: one goes", b.clear(), 1);
        Check.due("promise 7: none is left", b.clear(), 0);
        for (int k = 0; k < 8; k++) {
            b.point(-10, 5 * k, 100, 0, 0);
        }
        Check.due("promise 7: eight go", b.clear(), 8);
        Check.due("promise 7: the scene is empty", b.pointAt(0, 0), -5000);
        b.look(0);
        for (int s = 0; s < 400; s++) {
            Check.due("promise 7: nothing echoes", b.sample(0, 0, s), 0);
        }
    }

    private static void promise8TheFirstAndTheLast() {
        SoundBoard b = new SoundBoard();
        Check.due("promise 8: no point", b.pointAt(0, 0), -5000);
        for (int k = 0; k < 8; k++) {
            Check.due("promise 8: not yet", b.pointAt(k, 0), -5000);
            b.point(10 * k, 20 * k, -k, 1, 1);
            Check.due("promise 8: x", b.pointAt(k, 0), 10 * k);
            Check.due("promise 8: z", b.pointAt(k, 1), 20 * k);
            Check.due("promise 8: strength", b.pointAt(k, 2), -k);
            Check.due("promise 8: what -1", b.pointAt(k, -1), -5000);
            Check.due("promise 8: what 3", b.pointAt(k, 3), -5000);
        }
        Check.due("promise 8: point -1", b.pointAt(-1, 0), -5000);
        Check.due("promise 8: point 8", b.pointAt(8, 0), -5000);
    }

    private static void promise9HeldWithinTheBounds() {
        int[][] moves = {
            {1999, 100, 1, 0, 2000, 100}, {2000, 100, 1, 0, 2000, 100}, {1801, 100, 200, 0, 2000, 100},
            {1800, 100, 200, 0, 2000, 100}, {1799, 100, 200, 0, 1999, 100}, {-1999, 100, -1, 0, -2000, 100},
            {-2000, 100, -1, 0, -2000, 100}, {-1801, 100, -200, 0, -2000, 100}, {-1799, 100, -200, 0, -1999, 100},
            {0, 3999, 0, 1, 0, 4000}, {0, 4000, 0, 1, 0, 4000}, {0, 3801, 0, 200, 0, 4000}, {0, 3799, 0, 200, 0, 3999},
            {0, 1, 0, -1, 0, 0}, {0, 0, 0, -1, 0, 0}, {0, 199, 0, -200, 0, 0}, {0, 201, 0, -200, 0, 1},
            {2000, 4000, 200, 200, 2000, 4000}, {-2000, 0, -200, -200, -2000, 0}, {2000, 0, -200, 200, 1800, 200}};
        for (int[] m : moves) {
            SoundBoard b = new SoundBoard();
            b.point(m[0], m[1], 1, m[2], m[3]);
            b.look(0);
            Check.due("promise 9: x " + m[0] + " moved by " + m[2], b.pointAt(0, 0), m[4]);
            Check.due("promise 9: z " + m[1] + " moved by " + m[3], b.pointAt(0, 1), m[5]);
        }
        // Held in one of both, a point goes on in the other one.
        SoundBoard b = new SoundBoard();
        b.point(1990, 3950, 1, 20, 20);
        for (int n = 0; n < 4; n++) {
            b.look(0);
        }
        Check.due("promise 9: x held since the first", b.pointAt(0, 0), 2000);
        Check.due("promise 9: z held since the third", b.pointAt(0, 1), 4000);
    }

    private static void promise9TheSeventh() {
        SoundBoard b = new SoundBoard();
        b.dead(1, true);
        b.point(-10, 10, 1, 0, 1);
        for (int n = 1; n <= 20; n++) {
            Check.due("promise 9: how many there are", b.look(0), Math.min(n, 6));
            Check.due("promise 9: ever", b.count(6), n);
            int oldest = Math.max(0, n - 6);
            for (int look = 0; look < Math.min(n, 6); look++) {
                for (int sent = 0; sent < n; sent++) {
                    int due = sent == oldest + look ? 2 : Math.abs(2 * (sent - oldest - look)) == 1 ? 1 : 0;
                    Check.due("promise 9: told from the oldest on", b.sample(look, 0, 2 * (10 + sent)), due);
                }
            }
            Check.due("promise 9: no look more", b.sample(Math.min(n, 6), 0, 0), -1000000);
        }
        b.cap(0);
        Check.due("promise 9: a refused one lets none go", b.look(0), HOT);
        Check.due("promise 9: the oldest stays", b.sample(0, 0, 2 * (10 + 14)), 2);
        Check.due("promise 9: points stay where they are", b.pointAt(0, 1), 30);
        Check.due("promise 9: heat stays", b.count(5), 20);
    }

    private static void promise9TheCap() {
        for (int alive = 1; alive <= 16; alive++) {
            SoundBoard b = new SoundBoard();
            b.probe(16, 0, 1);
            for (int i = alive; i < 16; i++) {
                b.dead(i, true);
            }
            int cube = alive * alive * alive;
            b.cap(cube - 1);
            Check.due("promise 9: one above the cap", b.look(0), HOT);
            b.cap(cube);
            Check.due("promise 9: just at the cap", b.look(0), 1);
            Check.due("promise 9: the cube of the alive ones", b.count(5), cube);
            b.cap(2 * cube - 1);
            Check.due("promise 9: the second is one above it", b.look(alive - 1), HOT);
            b.cap(2 * cube);
            Check.due("promise 9: the second just at it", b.look(alive - 1), 2);
            if (alive < 16) {
                Check.due("promise 9: NO before HOT", b.look(alive), NO);
            }
            Check.due("promise 9: BAD before HOT", b.look(16), BAD);
        }
        SoundBoard b = new SoundBoard();
        b.cap(9);
        b.look(0);
        Check.due("promise 9: 16 is above 9", b.look(0), HOT);
        b.cap(0);
        Check.due("promise 9: a cap below the heat", b.look(0), HOT);
        b.dead(1, true);
        b.cap(9);
        Check.due("promise 9: 8 and 1 is not above 9", b.look(0), 2);
    }

    /** One element at -10 and a point straight below it: d is twice z. */
    private static SoundBoard below(int p, int q, int z, int strength) {
        SoundBoard b = new SoundBoard();
        b.dead(1, true);
        b.pace(p, q);
        b.point(-10, z, strength, 0, 0);
        b.look(0);
        return b;
    }

    private static void promise10TheEndsOfARow() {
        SoundBoard first = below(1, 1, 0, 7);
        Check.due("promise 10: d is 0: its sample", first.sample(0, 0, 0), 14);
        Check.due("promise 10: d is 0: the next", first.sample(0, 0, 1), 7);
        Check.due("promise 10: d is 0: nothing at the end", first.sample(0, 0, 399), 0);
        SoundBoard last = below(1, 1, 199, 7);
        Check.due("promise 10: d is 398", last.sample(0, 0, 397), 7);
        Check.due("promise 10: d is 398", last.sample(0, 0, 398), 14);
        Check.due("promise 10: d is 398", last.sample(0, 0, 399), 7);
        SoundBoard over = below(1, 1, 200, 7);
        Check.due("promise 10: d is 400: d - 1 is the last", over.sample(0, 0, 399), 7);
        Check.due("promise 10: d is 400: nothing else", over.sample(0, 0, 398), 0);
        Check.due("promise 10: d is 400: nothing at the begin", over.sample(0, 0, 0), 0);
        Check.due("promise 10: sample -1", over.sample(0, 0, -1), -1000000);
        Check.due("promise 10: sample 400", over.sample(0, 0, 400), -1000000);
        // From element 0 the way to a point at 0, z and back to element 1, 20 aside, is odd for these.
        int[][] odd = {{199, 0, 7, 14}, {200, 0, 0, 0}};
        for (int[] o : odd) {
            SoundBoard b = new SoundBoard();
            b.probe(2, 0, 20);
            b.point(0, o[0], 7, 0, 0);
            b.look(0);
            Check.due("promise 10: d is " + (2 * o[0] + 1), b.delay(0, 0, o[0]) + b.delay(1, 0, o[0]), 2 * o[0] + 1);
            Check.due("promise 10: sample 397", b.sample(0, 1, 397), o[1]);
            Check.due("promise 10: sample 398", b.sample(0, 1, 398), o[2]);
            Check.due("promise 10: sample 399", b.sample(0, 1, 399), o[3]);
        }
    }

    /** What is ahead of a row's begin is nothing, and not the end of the row before it. */
    private static void promise10NothingAheadOfARow() {
        SoundBoard b = new SoundBoard();
        b.probe(16, 0, 20);
        for (int t = 0; t < 6; t++) {
            b.clear();
            b.point(20 * t, 0, 100, 0, 0);
            b.look(t);
            Check.due("promise 10: d is 0", b.sample(t, t, 0), 200);
        }
        for (int look = 0; look < 6; look++) {
            for (int i = 0; i < 16; i++) {
                Check.due("promise 10: nothing at the end of row " + i, b.sample(look, i, 399), 0);
            }
        }
    }

    private static void promise10RowsBeginWithNothing() {
        SoundBoard b = new SoundBoard();
        b.probe(3, -10, 10);
        for (int z = 10; z <= 80; z += 10) {
            b.point(-10, z, 100, 0, 0);
        }
        for (int n = 0; n < 6; n++) {
            b.look(0);
        }
        b.clear();
        // Looks 7 to 12 lie where others were; the first of them with a dead element and a last point.
        b.dead(1, true);
        b.point(-10, 100, 3, 0, 0);
        b.look(0);
        b.clear();
        b.look(0);
        for (int i = 0; i < 3; i++) {
            long loud = 0;
            for (int s = 0; s < 400; s++) {
                loud += Math.abs(b.sample(4, i, s));
                Check.due("promise 10: 0 at first", b.sample(5, i, s), 0);
            }
            Check.due("promise 10: 0 at first, then what echoed", loud, i == 1 ? 0 : 4 * 3);
        }
        Check.due("promise 10: before it died it heard", b.sample(0, 1, 25), 100);
    }

    private static void promise10FarBeyondTheRow() {
        SoundBoard b = new SoundBoard();
        b.probe(2, -2000, 1);
        b.pace(1, 1000);
        b.point(2000, 4000, 100, 0, 0);
        b.point(-2000, 0, 5, 0, 0);
        Check.due("promise 10: far beyond", b.look(0), 1);
        Check.due("promise 10: what is near is heard", b.sample(0, 0, 0), 10);
        Check.due("promise 10: the other one hears it 1000 later", b.sample(0, 1, 399), 0);
        for (int s = 2; s < 400; s++) {
            Check.due("promise 10: nothing", b.sample(0, 0, s) + b.sample(0, 1, s), 0);
        }
        Check.due("promise 10: no element 2", b.sample(0, 2, 0), -1000000);
        Check.due("promise 10: no look 1", b.sample(1, 0, 0), -1000000);
        b.probe(16, 0, 1);
        b.pace(1, 1);
        b.clear();
        b.point(15, 10, 5, 0, 0);
        b.look(15);
        Check.due("promise 10: the last element", b.sample(0, 15, 20), 10);
        Check.due("promise 10: no element 16", b.sample(0, 16, 20), -1000000);
    }
}
