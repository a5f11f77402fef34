/** Promises 20 to 22: fan, fanAt, board. */
public final class FanTest {
    private static final int NO_VALUE = -1000000000;

    public static void main(String[] args) {
        promise20Fan();
        promise20Stays();
        promise20Bad();
        promise21FanAt();
        promise22Corners();
        promise22Shares();
        promise22CutTowardNothing();
        promise22Loudest();
        promise22Beyond();
        promise22Bad();
        Check.end("FanTest");
    }

    /** Sound so quick and points so strong that there is something to be heard nearly everywhere. */
    private static SoundBoard loud() {
        SoundBoard b = new SoundBoard();
        b.probe(7, -30, 10);
        b.pace(3, 1);
        b.point(0, 20, 100, 0, 0);
        b.point(-13, 31, -77, 0, 0);
        b.point(9, 44, 91, 0, 0);
        b.point(25, 60, -58, 0, 0);
        b.point(-5, 72, 99, 0, 0);
        b.point(14, 7, -100, 0, 0);
        b.point(-40, 55, 83, 0, 0);
        b.point(2, 3, 67, 0, 0);
        b.look(3);
        return b;
    }

    private static void promise20Fan() {
        SoundBoard b = loud();
        b.clear();
        b.look(2);
        b.window(2, 1);
        int[][] shapes = {{2, 2, 1}, {3, 9, 7}, {4, 16, 5}, {5, 8, 9}, {8, 12, 6}, {9, 16, 3}, {9, 16, 250}, {2, 16, 250}};
        int[] middles = {0, 1, 1, 2, 3, 4, 4, 0};
        int other = 0;
        for (int n = 0; n < shapes.length; n++) {
            int r = shapes[n][2];
            Check.due("fan", b.fan(0, shapes[n][0], shapes[n][1], r), 1);
            for (int a = 0; a < shapes[n][0]; a++) {
                for (int k = 0; k < shapes[n][1]; k++) {
                    int due = b.mean(1, k * r * (a - middles[n]) / 8, k * r);
                    Check.due("fan " + n + ": " + a + ", " + k, b.fanAt(a, k), due);
                    other += due != 0 ? 1 : 0;
                }
            }
        }
        Check.holds("there is something to be heard", other > 50);
        Check.due("of the second look", b.fan(1, 3, 9, 7), 1);
        Check.due("it heard nothing", b.fanAt(1, 3), 0);
        // A line is a step in eight aside: at z 8 and 16 the next one is at x 1 and 2.
        SoundBoard c = new SoundBoard();
        c.dead(1, true);
        c.point(-8, 16, 5, 0, 0);
        c.look(0);
        c.fan(0, 9, 3, 8);
        Check.due("4 lines to the left", c.fanAt(0, 2), 10);
        Check.due("x is -8, z is 16", c.mean(1, -8, 16), 10);
    }

    private static void promise20Stays() {
        SoundBoard b = loud();
        b.fan(0, 5, 8, 9);
        int[] kept = new int[40];
        for (int n = 0; n < 40; n++) {
            kept[n] = b.fanAt(n / 8, n % 8);
        }
        b.window(1, 9);
        b.dead(3, true);
        b.clear();
        for (int n = 0; n < 7; n++) {
            b.look(0);
        }
        for (int n = 0; n < 40; n++) {
            Check.due("the fan stays as it is", b.fanAt(n / 8, n % 8), kept[n]);
        }
        Check.due("a bad one", b.fan(6, 5, 8, 9), -2);
        b.probe(2, 0, 1);
        for (int n = 0; n < 40; n++) {
            Check.due("the fan stays still", b.fanAt(n / 8, n % 8), kept[n]);
        }
        Check.due("so does its board", b.board(3, 2, 9, 1, 1), kept[2 * 8 + 1]);
    }

    private static void promise20Bad() {
        SoundBoard b = new SoundBoard();
        Check.due("no look", b.fan(0, 2, 2, 1), -2);
        b.look(0);
        int[][] edges = {{-1, 1}, {1, 10}, {1, 17}, {0, 251}};
        int[] fine = {0, 2, 2, 1};
        for (int place = 0; place < 4; place++) {
            int[] wrong = {edges[place][0], edges[place][1], Integer.MIN_VALUE, Integer.MAX_VALUE};
            for (int value : wrong) {
                int[] a = fine.clone();
                a[place] = value;
                Check.due("bad fan, number " + place + " is " + value, b.fan(a[0], a[1], a[2], a[3]), -2);
            }
        }
        Check.due("there is none yet", b.fanAt(0, 0), NO_VALUE);
        Check.due("the least", b.fan(0, 2, 2, 1), 1);
        Check.due("the greatest", b.fan(0, 9, 16, 250), 1);
    }

    private static void promise21FanAt() {
        SoundBoard b = loud();
        Check.due("none", b.fanAt(0, 0), NO_VALUE);
        b.fan(0, 9, 16, 5);
        b.fan(0, 3, 4, 10);
        Check.due("line 1 is straight", b.fanAt(1, 2), b.mean(1, 0, 20));
        Check.due("the last of all", b.fanAt(2, 3), b.mean(1, 3, 30));
        int[][] bad = {{-1, 0}, {3, 0}, {8, 0}, {0, -1}, {0, 4}, {0, 15}, {Integer.MIN_VALUE, 0}, {Integer.MAX_VALUE, 0},
            {0, Integer.MIN_VALUE}, {0, Integer.MAX_VALUE}};
        for (int[] w : bad) {
            Check.due("bad fanAt", b.fanAt(w[0], w[1]), NO_VALUE);
        }
    }

    /** Squares that lie just on a mean of a line. */
    private static void promise22Corners() {
        SoundBoard b = loud();
        b.fan(0, 3, 12, 8);
        for (int v = 0; v < 12; v++) {
            Check.due("the middle line at " + v, b.board(3, 12, 8, 1, v), b.fanAt(1, v));
        }
        // In a row of 2 squares with step 8 the places are x -4 and 4; at z 32 these are lines of their own.
        Check.due("left", b.board(2, 12, 8, 0, 4), b.fanAt(0, 4));
        Check.due("right, on the last line", b.board(2, 12, 8, 1, 4), b.fanAt(2, 4));
        Check.due("right of the last line", b.board(2, 12, 8, 1, 3), 0);
        Check.due("left of the first line", b.board(2, 12, 8, 0, 3), 0);
        b.fan(0, 3, 12, 16);
        Check.due("half of the way", b.board(3, 12, 8, 1, 3), (128 * b.fanAt(1, 1) + 128 * b.fanAt(1, 2)) / 256);
        b.fan(0, 4, 12, 8);
        Check.due("the middle of four is 1", b.board(3, 12, 8, 1, 5), b.fanAt(1, 5));
        Check.due("at z 0 all is in the middle", b.board(12, 12, 8, 0, 0), b.fanAt(1, 0));
        Check.due("at z 0 all is in the middle", b.board(12, 12, 500, 11, 0), b.fanAt(1, 0));
        Check.holds("there it is heard", b.fanAt(1, 0) != 0);
    }

    private static void promise22Shares() {
        SoundBoard b = loud();
        b.fan(0, 5, 9, 16);
        // Squares of 5: u 6 of 12 is x 2, v 8 is z 40; k' is 40, a' is 32 + 6.
        Check.due("right of the middle", b.board(12, 12, 5, 6, 8), shared(b, 2, 6, 2, 8));
        // u 5 of 12 is x -2 (-5 by 2, cut toward 0): a' is 32 - 6.
        Check.due("left of the middle", b.board(12, 12, 5, 5, 8), shared(b, 1, 10, 2, 8));
        // v 9 is z 45: k' is 45; 128 by 45 is 5, cut, of x 2; -5 of x -2; x 7 is 19; x -12 is -34, cut toward 0.
        Check.due("z 45, x 2", b.board(12, 12, 5, 6, 9), shared(b, 2, 5, 2, 13));
        Check.due("z 45, x -2", b.board(12, 12, 5, 5, 9), shared(b, 1, 11, 2, 13));
        Check.due("z 45, x 7", b.board(12, 12, 5, 7, 9), shared(b, 3, 3, 2, 13));
        Check.due("z 45, x -12 is beyond", b.board(12, 12, 5, 3, 9), 0);
        // Step 7: k' is 16 z by 7, cut: z 40 is 91.
        b.fan(0, 5, 9, 7);
        Check.due("step 7, x 2", b.board(12, 12, 5, 6, 8), shared(b, 2, 6, 5, 11));
        Check.due("step 7, x -7", b.board(12, 12, 5, 4, 8), shared(b, 0, 10, 5, 11));
        // Step 3: u 7 of 12 is x 4, v 11 is z 33; k' is 33, a' is 32 + 15.
        b.fan(0, 5, 9, 16);
        Check.due("nearly on the next line", b.board(12, 12, 3, 7, 11), shared(b, 2, 15, 2, 1));
        int whole = 0;
        for (int a = 0; a < 5; a++) {
            for (int k = 0; k < 9; k++) {
                whole += b.fanAt(a, k) != 0 ? 1 : 0;
            }
        }
        Check.holds("most of the fan is heard", whole > 22);
    }

    private static int shared(SoundBoard b, int a, int g, int k, int f) {
        int total = (16 - g) * (16 - f) * b.fanAt(a, k) + g * (16 - f) * b.fanAt(a + 1, k)
            + (16 - g) * f * b.fanAt(a, k + 1) + g * f * b.fanAt(a + 1, k + 1);
        return total / 256;
    }

    private static void promise22CutTowardNothing() {
        for (int sign = -1; sign <= 1; sign += 2) {
            SoundBoard b = new SoundBoard();
            b.probe(2, 0, 200);
            b.point(0, 32, sign, 0, 0);
            b.dead(1, true);
            b.look(0);
            b.fan(0, 2, 3, 32);
            Check.due("one mean", b.fanAt(0, 1), 2 * sign);
            Check.due("none ahead", b.fanAt(0, 0), 0);
            Check.due("none behind", b.fanAt(0, 2), 0);
            Check.due("2 by 2", b.board(3, 12, 16, 1, 1), sign);
            Check.due("less than 1 is 0", b.board(3, 12, 8, 1, 1), 0);
            Check.due("3 by 2 is 1", b.board(3, 12, 8, 1, 3), sign);
        }
    }

    private static void promise22Loudest() {
        SoundBoard b = new SoundBoard();
        b.probe(2, 0, 1);
        for (int n = 0; n < 8; n++) {
            b.point(0, 100, 100, 0, 0);
        }
        b.look(0);
        b.fan(0, 3, 3, 100);
        Check.due("eight as loud as may be", b.fanAt(1, 1), 1600);
        Check.due("all of it", b.board(3, 3, 100, 1, 1), 1600);
        Check.due("half of it", b.board(3, 3, 50, 1, 1), 800);
    }

    private static void promise22Beyond() {
        SoundBoard b = loud();
        b.fan(0, 2, 2, 20);
        Check.holds("the last mean is heard", b.fanAt(0, 1) != 0);
        Check.due("on the last mean", b.board(3, 3, 20, 1, 1), b.fanAt(0, 1));
        Check.due("k' is cut: 16 and a bit is 16", b.board(3, 3, 21, 1, 1), b.fanAt(0, 1));
        Check.due("beyond the last mean", b.board(3, 3, 22, 1, 1), 0);
        Check.due("left of the first line", b.board(3, 3, 20, 0, 1), 0);
        Check.due("z 0 is on the first line of two", b.board(3, 3, 20, 0, 0), b.fanAt(0, 0));
        Check.holds("which is heard", b.fanAt(0, 0) != 0);
        // Step 5: x 2 at z 15 is 17 sixteenths to the right.
        b.fan(0, 2, 4, 5);
        Check.holds("the last line is heard", b.fanAt(1, 3) != 0);
        Check.due("a sixteenth beyond the last line", b.board(12, 12, 5, 6, 3), 0);
        Check.due("far to the right", b.board(12, 12, 500, 11, 1), 0);
        Check.due("far below", b.board(12, 12, 500, 6, 11), 0);
    }

    private static void promise22Bad() {
        SoundBoard b = new SoundBoard();
        b.look(0);
        Check.due("no fan", b.board(2, 2, 1, 0, 0), NO_VALUE);
        b.fan(0, 2, 2, 1);
        Check.due("a fan", b.board(2, 2, 1, 0, 0), 0);
        int[][] edges = {{1, 13}, {1, 13}, {0, 501}, {-1, 12}, {-1, 12}};
        int[] fine = {12, 12, 1, 0, 0};
        for (int place = 0; place < 5; place++) {
            int[] wrong = {edges[place][0], edges[place][1], Integer.MIN_VALUE, Integer.MAX_VALUE};
            for (int value : wrong) {
                int[] a = fine.clone();
                a[place] = value;
                Check.due("bad board, number " + place + " is " + value,
                    b.board(a[0], a[1], a[2], a[3], a[4]), NO_VALUE);
            }
        }
        Check.due("u as w", b.board(3, 5, 1, 3, 0), NO_VALUE);
        Check.due("v as h", b.board(5, 3, 1, 0, 3), NO_VALUE);
        Check.due("the least", b.board(2, 2, 1, 1, 1), 0);
        Check.due("the greatest", b.board(12, 12, 500, 11, 11), 0);
    }
}
