/** Promises 15 to 19: picture, pixel, about, differ, turn. */
public final class PictureTest {
    private static final int NO_VALUE = -1000000000;

    public static void main(String[] args) {
        promise15Picture();
        promise15Beyond();
        promise15Ring();
        promise15Bad();
        promise16Pixel();
        promise17About();
        promise18Differ();
        promise18DifferInAFullRing();
        promise19Turn();
        promise19OddTurn();
        promise19Ties();
        promise19Reach();
        promise19Bad();
        Check.end("PictureTest");
    }

    private static void promise15Picture() {
        SoundBoard b = new SoundBoard();
        b.probe(5, -20, 9);
        b.point(3, 40, 60, 2, 1);
        b.point(-9, 52, -35, 0, 2);
        b.look(1);
        b.look(3);
        b.window(2, 1);
        b.dead(2, true);
        Check.due("first", b.picture(3, -21, 33, 5, 4, 11, 7), 1);
        int other = 0;
        for (int l = 0; l < 7; l++) {
            for (int k = 0; k < 11; k++) {
                int due = b.mean(3, -21 + 5 * k, 33 + 4 * l);
                Check.due("pixel " + k + ", " + l, b.pixel(0, k, l), due);
                other += due != 0 ? 1 : 0;
            }
        }
        Check.holds("there is something to be seen", other > 5);
        int seen = b.pixel(0, 5, 2);
        b.window(1, 9);
        b.clear();
        b.probe(2, 0, 1);
        Check.due("pictures go with the probe", b.pixel(0, 5, 2), NO_VALUE);
        SoundBoard c = new SoundBoard();
        c.point(0, 40, 60, 0, 0);
        c.look(0);
        c.picture(1, 0, 40, 1, 1, 1, 1);
        seen = c.pixel(0, 0, 0);
        Check.due("60 twice", seen, 120);
        c.dead(0, true);
        c.clear();
        for (int n = 0; n < 7; n++) {
            c.look(1);
        }
        Check.due("a picture stays as it is", c.pixel(0, 0, 0), seen);
    }

    private static void promise15Beyond() {
        SoundBoard b = new SoundBoard();
        b.pace(1000, 20);
        b.point(2000, 4000, 100, 0, 0);
        b.look(0);
        // The pace is so quick that the places just beyond would be heard as well.
        b.picture(1, 1999, 3998, 1, 1, 3, 4);
        int[] due = {1, 1, 0, 1, 1, 0, 1, 1, 0, 0, 0, 0};
        for (int index = 0; index < 12; index++) {
            int got = b.pixel(0, index % 3, index / 3);
            Check.due("pixel " + index, got != 0 ? 1 : 0, due[index]);
        }
        Check.due("at the corner", b.pixel(0, 1, 2), 200);
        Check.due("far beyond", b.picture(1, 2000, 4000, 500, 500, 16, 16), 2);
        Check.due("the corner alone", b.pixel(1, 0, 0), 200);
        Check.due("is all", b.about(1, 3), 0);
        Check.due("far beyond", b.pixel(1, 15, 15), 0);
    }

    private static void promise15Ring() {
        SoundBoard b = new SoundBoard();
        b.look(0);
        for (int n = 1; n <= 11; n++) {
            Check.due("picture " + n, b.picture(1, 0, 0, 1, 1, n, 2), Math.min(n, 4));
            for (int p = 0; p < Math.min(n, 4); p++) {
                Check.due("width " + p + " of " + n, b.about(p, 0), Math.max(1, n - 3) + p);
            }
        }
        Check.due("four", b.count(4), 4);
        Check.due("no fifth", b.about(4, 0), -2);
    }

    private static void promise15Bad() {
        SoundBoard b = new SoundBoard();
        Check.due("no look", b.picture(1, 0, 0, 1, 1, 1, 1), -2);
        b.look(0);
        b.look(1);
        int[][] edges = {{0, 4}, {-2001, 2001}, {-1, 4001}, {0, 501}, {0, 501}, {0, 17}, {0, 17}};
        int[] fine = {3, 0, 0, 1, 1, 1, 1};
        for (int place = 0; place < 7; place++) {
            int[] wrong = {edges[place][0], edges[place][1], Integer.MIN_VALUE, Integer.MAX_VALUE};
            for (int value : wrong) {
                int[] a = fine.clone();
                a[place] = value;
                Check.due("bad picture, number " + place + " is " + value,
                    b.picture(a[0], a[1], a[2], a[3], a[4], a[5], a[6]), -2);
            }
        }
        Check.due("bad looks", b.picture(-1, 0, 0, 1, 1, 1, 1), -2);
        Check.due("none is kept", b.count(4), 0);
        Check.due("least", b.picture(1, -2000, 0, 1, 1, 1, 1), 1);
        Check.due("greatest", b.picture(3, 2000, 4000, 500, 500, 16, 16), 2);
    }

    private static void promise16Pixel() {
        SoundBoard b = new SoundBoard();
        Check.due("no picture", b.pixel(0, 0, 0), NO_VALUE);
        b.point(0, 40, 7, 0, 0);
        b.look(0);
        b.picture(1, 0, 40, 100, 100, 3, 2);
        Check.due("first", b.pixel(0, 0, 0), 14);
        Check.due("last", b.pixel(0, 2, 1), 0);
        int[][] bad = {{-1, 0, 0}, {1, 0, 0}, {0, -1, 0}, {0, 3, 0}, {0, 0, -1}, {0, 0, 2}, {4, 0, 0},
            {Integer.MIN_VALUE, 0, 0}, {0, Integer.MIN_VALUE, 0}, {0, 0, Integer.MIN_VALUE},
            {Integer.MAX_VALUE, 0, 0}, {0, Integer.MAX_VALUE, 0}, {0, 0, Integer.MAX_VALUE}};
        for (int[] w : bad) {
            Check.due("bad pixel", b.pixel(w[0], w[1], w[2]), NO_VALUE);
        }
    }

    private static void promise17About() {
        SoundBoard b = new SoundBoard();
        Check.due("no picture", b.about(0, 0), -2);
        // One element, two points straight below it: 14 each, at z 40 and 60.
        b.dead(1, true);
        b.point(-10, 40, 7, 0, 0);
        b.point(-10, 60, 7, 0, 0);
        b.look(0);
        b.picture(1, -11, 20, 1, 20, 3, 4);
        Check.due("w", b.about(0, 0), 3);
        Check.due("h", b.about(0, 1), 4);
        Check.due("greatest", b.about(0, 2), 14);
        Check.due("first that has it", b.about(0, 3), 3);
        b.picture(1, -10, 20, 200, 20, 3, 3);
        Check.due("first that has it", b.about(1, 3), 3);
        Check.due("its place", b.pixel(1, 0, 1), 14);
        b.clear();
        b.point(-10, 40, -7, 0, 0);
        b.look(0);
        b.picture(2, -10, 40, 1, 1, 1, 1);
        Check.due("greatest below 0", b.about(2, 2), -14);
        Check.due("it is the first", b.about(2, 3), 0);
        b.picture(2, -10, 40, 300, 300, 2, 1);
        Check.due("0 is above", b.about(3, 2), 0);
        Check.due("0 is second", b.about(3, 3), 1);
        int[] wrong = {-1, 4, Integer.MIN_VALUE, Integer.MAX_VALUE};
        for (int value : wrong) {
            Check.due("bad what", b.about(0, value), -2);
            Check.due("bad picture", b.about(value, 0), -2);
        }
        Check.due("all four are there", b.about(3, 0), 2);
    }

    /** One element at -10 and a point of that strength straight below it at z 40. */
    private static SoundBoard heard(int strength) {
        SoundBoard b = new SoundBoard();
        b.dead(1, true);
        b.point(-10, 40, strength, 0, 0);
        b.look(0);
        b.clear();
        return b;
    }

    private static void promise18Differ() {
        SoundBoard b = heard(7);
        b.look(0);
        Check.due("no pictures", b.differ(0, 0), -2);
        b.picture(1, -10, 40, 300, 1, 3, 2);
        b.picture(2, -10, 40, 300, 1, 3, 2);
        b.picture(1, -10, 40, 300, 1, 2, 3);
        Check.due("one less the other", b.differ(1, 0), 4);
        Check.due("0 less 14", b.pixel(3, 0, 0), -14);
        Check.due("0 less 7", b.pixel(3, 0, 1), 0);
        Check.due("0 less 0", b.pixel(3, 2, 1), 0);
        Check.due("w", b.about(3, 0), 3);
        Check.due("h", b.about(3, 1), 2);
        Check.due("other shape, as large", b.differ(0, 2), -3);
        b.picture(1, -10, 40, 1, 1, 3, 1);
        Check.due("other height", b.differ(0, 3), -3);
        long before = b.digest();
        int[] wrong = {-1, 4, Integer.MIN_VALUE, Integer.MAX_VALUE};
        for (int value : wrong) {
            Check.due("bad p", b.differ(value, 0), -2);
            Check.due("bad q", b.differ(0, value), -2);
        }
        Check.due("refused ones change nothing", b.digest(), before);
        Check.due("less itself", b.differ(1, 1), 4);
        Check.due("nothing", b.about(3, 2), 0);
        SoundBoard c = heard(7);
        c.point(-10, 44, -9, 0, 0);
        c.look(0);
        c.picture(1, -12, 37, 1, 1, 5, 9);
        c.picture(2, -12, 37, 1, 1, 5, 9);
        c.differ(0, 1);
        for (int l = 0; l < 9; l++) {
            for (int k = 0; k < 5; k++) {
                Check.due("each pixel", c.pixel(2, k, l), c.pixel(0, k, l) - c.pixel(1, k, l));
            }
        }
        Check.due("the last but one", c.pixel(2, 2, 7), 18);
    }

    private static void promise18DifferInAFullRing() {
        for (int other = 0; other < 2; other++) {
            SoundBoard b = heard(7);
            b.point(-10, 40, 20, 0, 0);
            b.look(0);
            b.picture(1, -10, 40, 300, 1, 2, 1);
            b.picture(2, -10, 40, 300, 1, 2, 1);
            b.picture(1, -10, 40, 300, 1, 2, 1);
            b.picture(3, -10, 40, 300, 1, 2, 1);
            Check.due("the oldest goes", other == 0 ? b.differ(0, 1) : b.differ(1, 0), 4);
            Check.due("the second is first", b.pixel(0, 0, 0), 40);
            Check.due("the third is second", b.pixel(1, 0, 0), 14);
            Check.due("the fourth is third", b.pixel(2, 0, 0), 27);
            Check.due("the new one", b.pixel(3, 0, 0), other == 0 ? -26 : 26);
        }
    }

    private static void promise19Turn() {
        for (int move = -4; move <= 4; move++) {
            SoundBoard b = new SoundBoard();
            b.dead(1, true);
            b.point(-10, 50, 9, 0, move);
            b.look(0);
            b.look(0);
            Check.due("moved by " + move, b.turn(0, 1, -10, 50), 2 * move);
            Check.due("back by " + move, b.turn(1, 0, -10, 50 + move), -2 * move);
            Check.due("with itself", b.turn(1, 1, -10, 50), 0);
        }
        SoundBoard b = new SoundBoard();
        b.point(0, 40, 9, 0, 2);
        b.point(5, 42, -4, 0, 2);
        b.look(1);
        b.look(1);
        Check.due("two elements", b.turn(0, 1, 0, 40), 4);
        b.dead(0, true);
        b.window(1, 9);
        Check.due("dead ones and weights change nothing", b.turn(0, 1, 0, 40), 4);
        b.dead(0, false);
        b.dead(1, true);
        Check.due("nor does a dead sender", b.turn(0, 1, 0, 40), 4);
        SoundBoard c = new SoundBoard();
        c.dead(1, true);
        c.point(-10, 50, 9, 0, 1);
        c.look(0);
        c.clear();
        c.point(-10, 52, 9, 0, 0);
        c.point(-10, 48, -9, 0, 0);
        c.look(0);
        Check.due("what is like it, not what is against it", c.turn(0, 1, -10, 50), 4);
    }

    private static SoundBoard oneThenTwo(int first, int second, int third) {
        SoundBoard b = new SoundBoard();
        b.dead(1, true);
        b.point(-10, first, 9, 0, 0);
        b.look(0);
        b.clear();
        b.point(-10, second, 9, 0, 0);
        b.point(-10, third, 9, 0, 0);
        b.look(0);
        return b;
    }

    private static void promise19OddTurn() {
        for (int sign = -1; sign <= 1; sign += 2) {
            SoundBoard b = new SoundBoard();
            b.probe(4, 0, 20);
            b.point(0, 50, 9, 0, 0);
            b.look(0);
            b.clear();
            b.point(-3 * sign, 50, 9, 0, 0);
            b.look(0);
            int[] later = {0, 1, 2, 2};
            for (int i = 0; i < 4; i++) {
                Check.due("way of " + i, b.delay(i, -3 * sign, 50) - b.delay(i, 0, 50), sign * later[i]);
            }
            // What is like itself 6 at 0, 4 at 1, 1 at 2 aside: 12 at 0, 18 at 1, 17 at 2.
            Check.due("by one", b.turn(0, 1, 0, 50), sign);
            // 8 beyond d for the sender, 7 for the other one: of all this only that one's first sample is heard.
            SoundBoard c = new SoundBoard();
            c.probe(2, 0, 20);
            c.point(1, 54, sign, 0, 0);
            c.look(0);
            c.look(0);
            Check.due("the way of the sender", c.delay(0, 1, 54) - c.delay(0, 0, 50), 4);
            Check.due("the way of the other one", c.delay(1, 1, 54) - c.delay(1, 0, 50), 3);
            Check.due("its foot is most like the peak", c.turn(0, 1, 0, 50), 1);
        }
    }

    private static void promise19Ties() {
        Check.due("as good on both sides", oneThenTwo(50, 48, 52).turn(0, 1, -10, 50), -4);
        Check.due("below 0 goes first", oneThenTwo(50, 52, 48).turn(0, 1, -10, 50), -4);
        Check.due("the smaller goes first", oneThenTwo(50, 47, 51).turn(0, 1, -10, 50), 2);
        Check.due("the smaller goes first", oneThenTwo(50, 49, 54).turn(0, 1, -10, 50), -2);
        Check.due("nothing is like it", oneThenTwo(50, 70, 80).turn(0, 1, -10, 50), 0);
        Check.due("nothing is there", oneThenTwo(50, 50, 50).turn(0, 1, 1000, 50), 0);
        // All sums but that of s 8 are below 0 or 0; the least s with 0 is taken.
        SoundBoard b = new SoundBoard();
        b.dead(1, true);
        b.point(-10, 50, 9, 0, 0);
        b.look(0);
        b.clear();
        b.point(-10, 50, -9, 0, 0);
        b.look(0);
        Check.due("against it: the first that is not", b.turn(0, 1, -10, 50), -3);
    }

    private static void promise19Reach() {
        Check.due("8 is tried", oneThenTwo(50, 54, 90).turn(0, 1, -10, 50), 8);
        Check.due("-8 is tried", oneThenTwo(50, 46, 90).turn(0, 1, -10, 50), -8);
        Check.due("10 is not, but its foot is", oneThenTwo(50, 55, 90).turn(0, 1, -10, 50), 8);
        Check.due("6 is heard", oneThenTwo(53, 55, 90).turn(0, 1, -10, 50), 4);
        Check.due("7 is not", oneThenTwo(54, 56, 90).turn(0, 1, -10, 50), 0);
        Check.due("-6 is heard", oneThenTwo(47, 45, 90).turn(0, 1, -10, 50), -4);
        Check.due("-7 is not", oneThenTwo(46, 44, 90).turn(0, 1, -10, 50), 0);
        Check.due("at the row's first samples", oneThenTwo(0, 2, 90).turn(0, 1, -10, 0), 4);
        Check.due("at the row's last samples", oneThenTwo(199, 197, 90).turn(0, 1, -10, 199), -4);
        Check.due("beyond the row", oneThenTwo(199, 197, 90).turn(0, 1, -10, 4000), 0);
    }

    private static void promise19Bad() {
        SoundBoard b = new SoundBoard();
        Check.due("no looks", b.turn(0, 0, 0, 0), -100);
        b.look(0);
        b.look(1);
        b.look(0);
        Check.due("senders differ", b.turn(0, 1, 0, 0), -101);
        Check.due("senders differ", b.turn(1, 2, 0, 0), -101);
        Check.due("one sender", b.turn(0, 2, 0, 0), 0);
        int[] wrong = {-1, 3, 6, Integer.MIN_VALUE, Integer.MAX_VALUE};
        for (int value : wrong) {
            Check.due("bad look", b.turn(value, 0, 0, 0), -100);
            Check.due("bad other", b.turn(0, value, 0, 0), -100);
        }
        int[][] places = {{-2001, 0}, {2001, 0}, {0, -1}, {0, 4001}, {Integer.MAX_VALUE, 0}, {0, Integer.MIN_VALUE}};
        for (int[] place : places) {
            Check.due("bad place", b.turn(0, 2, place[0], place[1]), -100);
            Check.due("bad goes first", b.turn(0, 1, place[0], place[1]), -100);
        }
        Check.due("edges", b.turn(0, 2, -2000, 4000), 0);
        Check.due("edges", b.turn(0, 2, 2000, 0), 0);
    }
}
