/** Boundary cases of promises 11 to 19, with the words that they use in Terms 2. */
public final class SumEdgeTest {
    private static final int BAD = -2;
    private static final int NO = -3;
    private static final int NO_VALUE = -1000000000;

    public static void main(String[] args) {
        promise11TheEnds();
        promise12AtTheWindowsEdge();
        promise12DeadOnes();
        promise13TheEndsOfTheRow();
        promise13TheFirstAndTheLastLook();
        promise14CutTowardNothing();
        promise14NoWeights();
        promise14Joined();
        promise14OneAtLeast();
        promise15TheLastPlacesSeen();
        promise15TheFifth();
        promise16TheCorners();
        promise17TheFirstThatHasIt();
        promise18TheFifth();
        promise18LessItself();
        promise19HeardTillSix();
        promise19TurnedTillEight();
        promise19TheLeastBySize();
        promise19BeyondTheRow();
        promise19BesideTheRow();
        promise19AllElements();
        promise19OneSender();
        Check.end("SumEdgeTest");
    }

    /** One element at -10; each z one look of a point of strength 9 straight below it. */
    private static SoundBoard looksAt(int... zs) {
        SoundBoard b = new SoundBoard();
        b.dead(1, true);
        for (int z : zs) {
            b.point(-10, z, 9, 0, 0);
            b.look(0);
            b.clear();
        }
        return b;
    }

    private static void promise11TheEnds() {
        SoundBoard b = new SoundBoard();
        Check.due("promise 11: window 0 at first", b.window(0, 1), 0);
        Check.due("promise 11: the last window, the first F", b.window(2, 1), 0);
        Check.due("promise 11: it was 2; the last F", b.window(1, 9), 2);
        Check.due("promise 11: it was 1", b.window(1, 9), 1);
        int[][] bad = {{-1, 5}, {3, 5}, {2, 0}, {2, 10}};
        for (int[] w : bad) {
            Check.due("promise 11: beyond", b.window(w[0], w[1]), BAD);
            Check.due("promise 11: the window stays", b.weight(0, 0, 91), 1);
            Check.due("promise 11: F stays", b.weight(0, 0, 89), 0);
        }
        Check.due("promise 11: it was 1 still", b.window(0, 9), 1);
    }

    private static void promise12AtTheWindowsEdge() {
        SoundBoard b = new SoundBoard();
        b.probe(2, 0, 1);
        for (int f = 1; f <= 9; f++) {
            for (int reach = 0; reach <= 3; reach++) {
                // The least and the greatest z that is reach by F, cut.
                int[] zs = {reach * f, reach * f + f - 1};
                for (int z : zs) {
                    for (int side = -1; side <= 1; side += 2) {
                        String at = ": F " + f + ", z " + z + ", side " + side;
                        b.window(1, f);
                        Check.due("promise 12: as far as z by F" + at, b.weight(0, side * reach, z), 1);
                        Check.due("promise 12: one farther" + at, b.weight(0, side * (reach + 1), z), 0);
                        b.window(2, f);
                        Check.due("promise 12: e is v" + at, b.weight(0, side * reach, z), 1);
                        Check.due("promise 12: e is above v" + at, b.weight(0, side * (reach + 1), z), 0);
                        Check.due("promise 12: e is 0" + at, b.weight(0, 0, z), reach + 1);
                        b.window(0, f);
                        Check.due("promise 12: all 1" + at, b.weight(0, side * (reach + 1), z), 1);
                    }
                }
            }
        }
        b.window(2, 1);
        Check.due("promise 12: the last z", b.weight(0, 0, 4000), 4001);
        Check.due("promise 12: the last x", b.weight(0, 2000, 4000), 2001);
        Check.due("promise 12: the first x", b.weight(1, -2000, 4000), 2000);
        int[][] beyond = {{0, -2001, 0}, {0, 2001, 0}, {0, 0, -1}, {0, 0, 4001}, {-1, 0, 0}, {2, 0, 0}};
        for (int[] w : beyond) {
            Check.due("promise 12: beyond", b.weight(w[0], w[1], w[2]), BAD);
        }
    }

    private static void promise12DeadOnes() {
        SoundBoard b = new SoundBoard();
        b.dead(0, true);
        for (int w = 0; w <= 2; w++) {
            b.window(w, 1);
            Check.due("promise 12: a dead one in window " + w, b.weight(0, -10, 4000), 0);
            Check.due("promise 12: the other one in window " + w, b.weight(1, 10, 0), 1);
        }
        b.dead(0, false);
        Check.due("promise 12: alive again", b.weight(0, -10, 4000), 4001);
    }

    private static void promise13TheEndsOfTheRow() {
        SoundBoard b = looksAt(0, 199, 200);
        Check.due("promise 13: sample 0", b.sum(0, -10, 0), 18);
        Check.due("promise 13: sample 398", b.sum(1, -10, 199), 18);
        Check.due("promise 13: sample 400 is beyond", b.sum(2, -10, 200), 0);
        Check.due("promise 13: sample 398 of the third", b.sum(2, -10, 199), 0);
        // From element 0 to a point at 0, z and on to element 1, 20 aside: 2 z by itself and 2 z and 1 together.
        SoundBoard c = new SoundBoard();
        c.probe(2, 0, 20);
        c.point(0, 199, 7, 0, 0);
        c.look(0);
        c.dead(0, true);
        Check.due("promise 13: sample 399", c.sum(0, 0, 199), 14);
        Check.due("promise 13: sample 401 is beyond", c.sum(0, 0, 200), 0);
        Check.due("promise 13: far beyond", c.sum(0, -2000, 4000), 0);
    }

    private static void promise13TheFirstAndTheLastLook() {
        SoundBoard b = new SoundBoard();
        Check.due("promise 13: no look", b.sum(0, 0, 0), NO_VALUE);
        b = looksAt(10, 20, 30, 40, 50, 60, 70, 80);
        for (int look = 0; look < 6; look++) {
            Check.due("promise 13: told from the oldest on", b.sum(look, -10, 30 + 10 * look), 18);
            Check.due("promise 13: and no other", b.sum(look, -10, 20 + 10 * look), 0);
        }
        Check.due("promise 13: look -1", b.sum(-1, -10, 30), NO_VALUE);
        Check.due("promise 13: look 6", b.sum(6, -10, 30), NO_VALUE);
        int[][] ends = {{-2000, 0}, {2000, 0}, {0, 4000}, {-2000, 4000}};
        for (int[] place : ends) {
            Check.due("promise 13: at the ends of x and z", b.sum(0, place[0], place[1]), 0);
            Check.due("promise 14: at the ends of x and z", b.mean(1, place[0], place[1]), 0);
        }
        int[][] beyond = {{-2001, 0}, {2001, 0}, {0, -1}, {0, 4001}};
        for (int[] place : beyond) {
            Check.due("promise 13: beyond them", b.sum(0, place[0], place[1]), NO_VALUE);
            Check.due("promise 14: beyond them", b.mean(1, place[0], place[1]), NO_VALUE);
        }
    }

    private static void promise14CutTowardNothing() {
        for (int strength = -5; strength <= 5; strength++) {
            SoundBoard b = new SoundBoard();
            b.probe(3, 0, 100);
            b.point(0, 10, strength, 0, 0);
            b.look(0);
            Check.due("promise 14: three hear it", b.mean(1, 0, 10), 2 * strength);
            // At z 11 the ways are 11, 101 and 200: element 2 alone hears the foot of it, a tick late.
            Check.due("promise 14: one hears its foot", b.sum(0, 0, 11), strength);
            Check.due("promise 14: a third, cut toward 0", b.mean(1, 0, 11), strength / 3);
            b.dead(1, true);
            Check.due("promise 14: a half, cut toward 0", b.mean(1, 0, 11), strength / 2);
            b.dead(0, true);
            Check.due("promise 14: the whole", b.mean(1, 0, 11), strength);
        }
    }

    private static void promise14NoWeights() {
        SoundBoard b = looksAt(10, 10);
        b.window(1, 9);
        Check.due("promise 14: the weights' sum is 0", b.mean(1, -9, 8), 0);
        Check.due("promise 14: of joined looks too", b.mean(3, -9, 8), 0);
        Check.due("promise 14: it is 1", b.mean(3, -10, 10), 18);
        Check.due("promise 13: no weights", b.sum(0, -8, 10), 0);
        b.window(2, 9);
        Check.due("promise 14: the weights' sum is 0", b.mean(2, -11, 8), 0);
        Check.due("promise 14: e is v", b.mean(2, -11, 9), 0);
        Check.due("promise 14: e is 0", b.mean(2, -10, 10), 18);
    }

    private static void promise14Joined() {
        SoundBoard b = looksAt(10, 20, 10, 20, 10, 20);
        for (int bits = 1; bits < 64; bits++) {
            int looks = Integer.bitCount(bits);
            int here = Integer.bitCount(bits & 21);
            Check.due("promise 14: looks " + bits, b.mean(bits, -10, 10), 18 * here / looks);
        }
        // A window by which weights are 11: all of them together are 11 for each look.
        b.window(2, 1);
        Check.due("promise 14: weights together", b.mean(7, -10, 10), 18 * 2 / 3);
        Check.due("promise 14: weights together", b.mean(63, -10, 10), 9);
    }

    private static void promise14OneAtLeast() {
        SoundBoard b = new SoundBoard();
        for (int looks = 0; looks <= 7; looks++) {
            int there = Math.min(looks, 6);
            Check.due("promise 14: none, of " + there, b.mean(0, 0, 0), NO_VALUE);
            Check.due("promise 14: one that is not there, of " + there, b.mean(1 << there, 0, 0), NO_VALUE);
            Check.due("promise 14: one more than there are, of " + there, b.mean((2 << there) - 1, 0, 0), NO_VALUE);
            Check.due("promise 14: the last bit, of " + there, b.mean(Integer.MIN_VALUE | (1 << there) - 1, 0, 0), NO_VALUE);
            Check.due("promise 15: none, of " + there, b.picture(0, 0, 0, 1, 1, 1, 1), BAD);
            Check.due("promise 15: one that is not there, of " + there, b.picture(1 << there, 0, 0, 1, 1, 1, 1), BAD);
            if (there > 0) {
                Check.due("promise 14: all of " + there, b.mean((1 << there) - 1, 0, 0), 0);
                Check.due("promise 14: the last of " + there, b.mean(1 << there - 1, 0, 0), 0);
            }
            b.look(0);
        }
        Check.due("promise 15: refused ones are not kept", b.count(4), 0);
    }

    /** Sound so quick that all places are heard: what is 0 is beyond. */
    private static void promise15TheLastPlacesSeen() {
        SoundBoard b = new SoundBoard();
        b.dead(1, true);
        b.pace(1000, 1);
        for (int k = 0; k < 8; k++) {
            b.point(-10, 1000 * (k % 4) + 1000, 100, 0, 0);
        }
        b.look(0);
        int[][] seen = {{1985, 3985, 1, 1, 16, 16}, {2000, 4000, 1, 1, 1, 1}, {1500, 3500, 500, 500, 2, 2}, {-2000, 0, 250, 250, 16, 16}};
        for (int[] s : seen) {
            b.picture(1, s[0], s[1], s[2], s[3], s[4], s[5]);
            int p = b.count(4) - 1;
            Check.holds("promise 15: the last place is seen", b.pixel(p, s[4] - 1, s[5] - 1) != 0);
        }
        int[][] beyond = {{1986, 3986, 1, 1, 16, 16}, {2000, 4000, 1, 1, 2, 2}, {1501, 3501, 500, 500, 2, 2}, {2000, 4000, 500, 500, 16, 16}};
        for (int[] s : beyond) {
            b.picture(1, s[0], s[1], s[2], s[3], s[4], s[5]);
            for (int k = 0; k < s[4]; k++) {
                Check.due("promise 15: z beyond", b.pixel(3, k, s[5] - 1), 0);
            }
            for (int l = 0; l < s[5]; l++) {
                Check.due("promise 15: x beyond", b.pixel(3, s[4] - 1, l), 0);
            }
            Check.holds("promise 15: the last but one is seen", b.pixel(3, Math.max(0, 2000 - s[0]) / s[2], (4000 - s[1]) / s[3]) != 0);
        }
    }

    private static void promise15TheFifth() {
        SoundBoard b = looksAt(40, 50);
        for (int n = 1; n <= 13; n++) {
            Check.due("promise 15: how many are in the ring", b.picture(1 + n % 2, -10, 40, 1, 10, n, 2), Math.min(n, 4));
            for (int p = 0; p < Math.min(n, 4); p++) {
                int made = Math.max(0, n - 4) + p + 1;
                Check.due("promise 15: 0 is the oldest", b.about(p, 0), made);
                Check.due("promise 15: it is what it was", b.pixel(p, 0, 0), made % 2 == 0 ? 18 : 0);
                Check.due("promise 15: l from above", b.pixel(p, 0, 1), made % 2 == 0 ? 0 : 18);
            }
            Check.due("promise 16: no picture more", b.pixel(Math.min(n, 4), 0, 0), NO_VALUE);
            Check.due("promise 15: a refused one", b.picture(4, -10, 40, 1, 10, n, 2), BAD);
        }
        Check.due("promise 15: lets none go", b.about(0, 0), 10);
    }

    private static void promise16TheCorners() {
        SoundBoard b = looksAt(40);
        int[][] shapes = {{1, 1}, {16, 1}, {1, 16}, {16, 16}, {2, 3}};
        for (int[] s : shapes) {
            b.picture(1, -10, 40, 1, 1, s[0], s[1]);
            int p = b.count(4) - 1;
            Check.due("promise 16: the first", b.pixel(p, 0, 0), 18);
            Check.holds("promise 16: the last of a row", b.pixel(p, s[0] - 1, 0) != NO_VALUE);
            Check.holds("promise 16: the last of a column", b.pixel(p, 0, s[1] - 1) != NO_VALUE);
            Check.holds("promise 16: the last", b.pixel(p, s[0] - 1, s[1] - 1) != NO_VALUE);
            Check.due("promise 16: k is w", b.pixel(p, s[0], 0), NO_VALUE);
            Check.due("promise 16: l is h", b.pixel(p, 0, s[1]), NO_VALUE);
            Check.due("promise 16: k is -1", b.pixel(p, -1, s[1] - 1), NO_VALUE);
            Check.due("promise 16: l is -1", b.pixel(p, s[0] - 1, -1), NO_VALUE);
            Check.due("promise 16: picture -1", b.pixel(-1, 0, 0), NO_VALUE);
        }
    }

    private static void promise17TheFirstThatHasIt() {
        SoundBoard b = looksAt(100, 100);
        Check.due("promise 17: no picture", b.about(0, 2), BAD);
        // Alone in the last place: 15 steps of 100 to the right and 15 of 2 below.
        b.picture(1, -1510, 70, 100, 2, 16, 16);
        Check.due("promise 17: the greatest is the last", b.about(0, 2), 18);
        Check.due("promise 17: k + w l", b.about(0, 3), 255);
        b.picture(1, -1510, 100, 100, 2, 16, 16);
        Check.due("promise 17: the last of the first row", b.about(1, 3), 15);
        b.picture(1, -10, 70, 100, 2, 16, 16);
        Check.due("promise 17: the first of the last row", b.about(2, 3), 240);
        b.picture(1, -11, 100, 1, 300, 3, 2);
        Check.due("promise 17: three have it", b.pixel(3, 0, 0) + b.pixel(3, 1, 0) + b.pixel(3, 2, 0), 3 * 18);
        Check.due("promise 17: the first of them", b.about(3, 3), 0);
        b.picture(1, 500, 3000, 1, 1, 7, 7);
        Check.due("promise 17: nothing is there", b.about(3, 2), 0);
        Check.due("promise 17: all have it", b.about(3, 3), 0);
        // 0 less 18 everywhere.
        b.picture(1, -10, 100, 1, 1, 1, 1);
        b.picture(1, -10, 50, 1, 1, 1, 1);
        b.differ(3, 2);
        Check.due("promise 17: the greatest is below 0", b.about(3, 2), -18);
        Check.due("promise 17: w", b.about(3, 0), 1);
        Check.due("promise 17: h", b.about(3, 1), 1);
        Check.due("promise 17: what -1", b.about(3, -1), BAD);
        Check.due("promise 17: what 4", b.about(3, 4), BAD);
        Check.due("promise 17: picture 4", b.about(4, 0), BAD);
        Check.due("promise 17: picture -1", b.about(-1, 0), BAD);
    }

    private static void promise18TheFifth() {
        // Pictures of one pixel: 18, 0, 18, 0; all pairs of them, the oldest going while it is looked at.
        int[] before = {18, 0, 18, 0};
        for (int p = 0; p < 4; p++) {
            for (int q = 0; q < 4; q++) {
                SoundBoard b = looksAt(40, 80);
                for (int n = 0; n < 6; n++) {
                    b.picture(1 + n % 2, -10, 40, 1, 1, 1, 1);
                }
                Check.due("promise 18: four are in the ring", b.differ(p, q), 4);
                for (int n = 0; n < 3; n++) {
                    Check.due("promise 18: the oldest went", b.pixel(n, 0, 0), before[n + 1]);
                }
                Check.due("promise 18: " + p + " less " + q, b.pixel(3, 0, 0), before[p] - before[q]);
            }
        }
        SoundBoard b = looksAt(40);
        b.picture(1, -10, 40, 1, 1, 2, 2);
        for (int n = 2; n <= 6; n++) {
            Check.due("promise 18: how many are in the ring", b.differ(0, 0), Math.min(n, 4));
        }
        Check.due("promise 18: no picture 4", b.differ(4, 0), BAD);
        Check.due("promise 18: no picture -1", b.differ(0, -1), BAD);
    }

    private static void promise18LessItself() {
        SoundBoard b = looksAt(40);
        Check.due("promise 18: none", b.differ(0, 0), BAD);
        b.picture(1, -10, 40, 1, 1, 16, 16);
        Check.due("promise 18: no second", b.differ(0, 1), BAD);
        Check.due("promise 18: less itself", b.differ(0, 0), 2);
        for (int n = 0; n < 256; n++) {
            Check.due("promise 18: is nothing", b.pixel(1, n % 16, n / 16), 0);
        }
        b.picture(1, -10, 40, 1, 1, 16, 15);
        Check.due("promise 18: h differs by 1", b.differ(0, 2), NO);
        b.picture(1, -10, 40, 1, 1, 15, 16);
        Check.due("promise 18: w differs by 1", b.differ(3, 0), NO);
        Check.due("promise 18: both differ", b.differ(3, 2), NO);
        Check.due("promise 18: refused ones are none", b.count(4), 4);
        Check.due("promise 18: and let none go", b.pixel(0, 0, 0), 18);
        Check.due("promise 18: less nothing", b.differ(0, 1), 4);
        Check.due("promise 18: is as it was", b.pixel(3, 0, 0), 18);
    }

    private static void promise19HeardTillSix() {
        // The point of look 0 is so many steps off the place that is asked for, each two ticks; that of look 1 is
        // farther off by the turn. At three steps t 6 is its peak; at four t 6 is not even its foot.
        int[][] due = {{0, 2}, {1, 2}, {2, 2}, {3, 4}, {3, 2}, {-1, -2}, {-2, -2}, {-3, -4}, {-3, -2}};
        for (int[] d : due) {
            int away = d[0];
            SoundBoard b = looksAt(50 + away, 50 + away + d[1] / 2);
            Check.due("promise 19: " + 2 * away + " off", b.turn(0, 1, -10, 50), d[1]);
        }
        Check.due("promise 19: 8 off is not heard", looksAt(54, 55).turn(0, 1, -10, 50), 0);
        Check.due("promise 19: -8 off is not heard", looksAt(46, 45).turn(0, 1, -10, 50), 0);
    }

    private static void promise19TurnedTillEight() {
        int[] turns = {-8, -6, -4, -2, 0, 2, 4, 6, 8};
        for (int s : turns) {
            SoundBoard b = looksAt(50, 50 + s / 2);
            Check.due("promise 19: turned by " + s, b.turn(0, 1, -10, 50), s);
        }
        // Ten is too much: its foot at 9 is like the peak's side at 1 by 8, and 11 is not heard at all.
        Check.due("promise 19: 10 is not tried", looksAt(50, 55).turn(0, 1, -10, 50), 8);
        Check.due("promise 19: -10 is not tried", looksAt(50, 45).turn(0, 1, -10, 50), -8);
        Check.due("promise 19: 12 is not like it", looksAt(50, 56).turn(0, 1, -10, 50), 0);
        Check.due("promise 19: -12 is not like it", looksAt(50, 44).turn(0, 1, -10, 50), 0);
    }

    private static void promise19TheLeastBySize() {
        for (int near = 0; near <= 4; near++) {
            for (int far = near; far <= 4; far++) {
                for (int sides = 0; sides < 4; sides++) {
                    int first = (sides & 1) == 0 ? near : -near;
                    int second = (sides & 2) == 0 ? far : -far;
                    if (Math.abs(first - second) < 2 || near == far && first > 0) {
                        continue;
                    }
                    SoundBoard b = new SoundBoard();
                    b.dead(1, true);
                    b.point(-10, 50, 9, 0, 0);
                    b.look(0);
                    b.clear();
                    b.point(-10, 50 + second, 9, 0, 0);
                    b.point(-10, 50 + first, 9, 0, 0);
                    b.look(0);
                    // As like at both: the lesser size, and of two of one size the one below 0.
                    Check.due("promise 19: of " + 2 * first + " and " + 2 * second, b.turn(0, 1, -10, 50), 2 * first);
                }
            }
        }
        Check.due("promise 19: all are 0", looksAt(50, 150).turn(0, 1, -10, 50), 0);
        Check.due("promise 19: nothing was heard", looksAt(150, 150).turn(0, 1, -10, 50), 0);
    }

    private static void promise19BeyondTheRow() {
        Check.due("promise 19: at the begin", looksAt(0, 4).turn(0, 1, -10, 0), 8);
        Check.due("promise 19: back to the begin", looksAt(4, 0).turn(0, 1, -10, 4), -8);
        Check.due("promise 19: at the end", looksAt(199, 195).turn(0, 1, -10, 199), -8);
        Check.due("promise 19: on to the end", looksAt(195, 199).turn(0, 1, -10, 195), 8);
        Check.due("promise 19: from beyond, by its foot", looksAt(199, 198).turn(0, 1, -10, 200), -2);
        Check.due("promise 19: all beyond", looksAt(199, 198).turn(0, 1, -10, 300), 0);
        int[][] ends = {{-2000, 0}, {2000, 0}, {0, 4000}};
        for (int[] place : ends) {
            Check.due("promise 19: at the ends of x and z", looksAt(9, 9).turn(0, 1, place[0], place[1]), 0);
        }
        int[][] beyond = {{-2001, 0}, {2001, 0}, {0, -1}, {0, 4001}};
        for (int[] place : beyond) {
            Check.due("promise 19: beyond them", looksAt(9, 9).turn(0, 1, place[0], place[1]), -100);
        }
    }

    /** Ahead of a row is nothing, and not the end of the row before it; behind it not the begin of the next. */
    private static void promise19BesideTheRow() {
        SoundBoard b = new SoundBoard();
        b.probe(2, 0, 20);
        int[] zs = {199, 197, 1, 3};
        for (int z : zs) {
            b.point(20, z, 9, 0, 0);
            b.look(1);
            b.clear();
        }
        // Of looks 0 and 1 only the ends of both rows hold something: at 20, 0 row 1 begins, row 0 is at 20.
        Check.holds("promise 19: an end that is heard", b.sample(0, 0, 399) != 0 && b.sample(1, 0, 395) != 0);
        Check.due("promise 19: ahead of row 1", b.turn(0, 1, 20, 0), 0);
        // Of looks 2 and 3 row 1 has its begin alone, row 0 what is at 20 and on: at 20, 195 both rows end.
        Check.holds("promise 19: a begin that is heard", b.sample(2, 1, 1) != 0 && b.sample(3, 1, 5) != 0);
        Check.due("promise 19: behind row 0", b.turn(2, 3, 20, 199), 0);
    }

    /** All elements: also those that have died since, with what their rows hold, and without weights. */
    private static void promise19AllElements() {
        SoundBoard b = new SoundBoard();
        b.probe(3, -10, 500);
        b.dead(1, true);
        b.dead(2, true);
        b.point(-10, 50, 9, 0, 3);
        b.look(0);
        b.look(0);
        b.dead(1, false);
        b.dead(0, true);
        Check.due("promise 19: by the row of a dead one", b.turn(0, 1, -10, 50), 6);
        Check.due("promise 13: which has no weight", b.sum(0, -10, 50), 0);
        b.window(1, 9);
        b.dead(0, false);
        Check.due("promise 19: by the row of one without weight", b.turn(0, 1, -3, 50), 6);
        Check.due("promise 13: which is 0", b.weight(0, -3, 50), 0);
    }

    private static void promise19OneSender() {
        SoundBoard b = new SoundBoard();
        Check.due("promise 19: no look", b.turn(0, 0, 0, 0), -100);
        b.point(0, 40, 9, 0, 2);
        for (int n = 0; n < 8; n++) {
            b.look(n % 2);
        }
        for (int look = 0; look < 6; look++) {
            for (int other = 0; other < 6; other++) {
                boolean one = (look + other) % 2 == 0;
                int got = b.turn(look, other, 0, 44 + 2 * look);
                Check.due("promise 19: looks " + look + ", " + other, got == -101 ? 0 : 1, one ? 1 : 0);
            }
        }
        Check.due("promise 19: two looks later", b.turn(0, 2, 0, 44), 8);
        Check.due("promise 19: look 6", b.turn(6, 0, 0, 44), -100);
        Check.due("promise 19: other 6", b.turn(0, 6, 0, 44), -100);
        Check.due("promise 19: look -1", b.turn(-1, 0, 0, 44), -100);
        Check.due("promise 19: BAD first", b.turn(0, 1, 0, 4001), -100);
        Check.due("promise 19: senders differ", b.turn(0, 1, 0, 4000), -101);
    }
}
