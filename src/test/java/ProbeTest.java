/** Promises 1 to 5: a new object, probe, pace, dead, delay. */
public final class ProbeTest {
    public static void main(String[] args) {
        promise1New();
        promise2Probe();
        promise2WhatStaysAndGoes();
        promise3Pace();
        promise4Dead();
        promise5Delay();
        promise5HalfWay();
        Check.end("ProbeTest");
    }

    private static void promise1New() {
        SoundBoard b = new SoundBoard();
        int[] counts = {2, 2, 0, 0, 0, 0, 0};
        for (int what = 0; what < counts.length; what++) {
            Check.due("new count " + what, b.count(what), counts[what]);
        }
        Check.due("element 0 is at -10", b.delay(0, -10, 0), 0);
        Check.due("element 1 is at 10", b.delay(1, 10, 0), 0);
        Check.due("P is Q", b.delay(0, -10, 777), 777);
        Check.due("no scene", b.pointAt(0, 0), -5000);
        Check.due("no fan", b.fanAt(0, 0), -1000000000);
        Check.due("no look", b.sample(0, 0, 0), -1000000);
        Check.due("no picture", b.pixel(0, 0, 0), -1000000000);
        Check.due("window 0 weighs what window 1 would not", b.weight(0, 2000, 0), 1);
        Check.due("window was 0", b.window(1, 2), 0);
        Check.due("cap was 100000", b.cap(5), 100000);
        long h = 131;
        for (int count : counts) {
            h = 31 * h + count;
        }
        Check.due("digest", new SoundBoard().digest(), h);
    }

    private static void promise2Probe() {
        SoundBoard b = new SoundBoard();
        Check.due("three", b.probe(3, 5, 7), 1);
        Check.due("count", b.count(0), 3);
        Check.due("first", b.delay(0, 5, 0), 0);
        Check.due("second", b.delay(1, 12, 0), 0);
        Check.due("third", b.delay(2, 19, 0), 0);
        Check.due("no fourth", b.delay(3, 19, 0), -2);
        int[][] good = {{2, -2000, 1}, {2, 1800, 200}, {2, 1999, 1}, {16, -1000, 200}, {16, 1985, 1}, {16, -2000, 200}};
        for (int[] g : good) {
            Check.due("good probe", b.probe(g[0], g[1], g[2]), 1);
            Check.due("last place", b.delay(g[0] - 1, g[1] + (g[0] - 1) * g[2], 0), 0);
            Check.due("alive", b.count(1), g[0]);
        }
        long before = b.digest();
        int[][] bad = {{1, 0, 1}, {17, 0, 1}, {0, 0, 1}, {-1, 0, 1}, {2, -2001, 1}, {2, 2001, 1}, {2, 0, 0}, {2, 0, 201},
            {2, 2000, 1}, {2, 1801, 200}, {16, 1986, 1}, {16, -999, 200},
            {Integer.MAX_VALUE, 0, 1}, {2, Integer.MAX_VALUE, 1}, {2, 0, Integer.MAX_VALUE},
            {Integer.MIN_VALUE, 0, 1}, {2, Integer.MIN_VALUE, 1}, {2, 0, Integer.MIN_VALUE}};
        for (int[] w : bad) {
            Check.due("bad probe", b.probe(w[0], w[1], w[2]), -2);
        }
        Check.due("bad ones change nothing", b.digest(), before);
        Check.due("bad ones leave the places", b.delay(0, -2000, 0), 0);
    }

    private static void promise2WhatStaysAndGoes() {
        SoundBoard b = new SoundBoard();
        b.pace(1, 2);
        b.window(1, 3);
        b.cap(50);
        b.point(0, 50, 7, 1, 1);
        b.look(0);
        b.picture(1, 0, 50, 1, 1, 2, 2);
        b.fan(0, 2, 2, 50);
        int kept = b.fanAt(0, 1);
        Check.holds("the fan hears", kept != 0);
        b.dead(1, true);
        Check.due("bad probe", b.probe(2, 0, 0), -2);
        Check.due("bad probe leaves the look", b.count(3), 1);
        Check.due("bad probe leaves the picture", b.count(4), 1);
        Check.due("bad probe leaves the heat", b.count(5), 8);
        Check.due("bad probe leaves the dead", b.count(1), 1);
        Check.due("probe", b.probe(2, -10, 20), 1);
        Check.due("alive again", b.count(1), 2);
        Check.due("so it weighs", b.weight(1, 10, 0), 1);
        Check.due("and may die", b.dead(1, true), 1);
        b.dead(1, false);
        Check.due("points stay", b.count(2), 1);
        Check.due("looks go", b.count(3), 0);
        Check.due("pictures go", b.count(4), 0);
        Check.due("heat is 0", b.count(5), 0);
        Check.due("looks ever stay", b.count(6), 1);
        Check.due("the pace stays", b.delay(0, -10, 10), 20);
        Check.due("the window stays", b.window(0, 2), 1);
        Check.due("the cap stays", b.cap(50), 50);
        Check.due("the fan stays", b.fanAt(0, 1), kept);
        Check.due("a new look is number 0", b.look(0), 1);
        Check.due("a look by the new probe", b.count(6), 2);
    }

    private static void promise3Pace() {
        SoundBoard b = new SoundBoard();
        Check.due("pace", b.pace(2, 6), 1);
        Check.due("Q by P", b.delay(0, -10, 5), 15);
        Check.due("edges", b.pace(1, 1000), 1);
        Check.due("slowest", b.delay(0, -10, 4), 4000);
        Check.due("edges", b.pace(1000, 1), 1);
        Check.due("fastest", b.delay(0, -10, 4000), 4);
        int[][] bad = {{0, 1}, {1, 0}, {1001, 1}, {1, 1001}, {-1, 1}, {1, -1}, {Integer.MAX_VALUE, 1}, {1, Integer.MIN_VALUE}};
        for (int[] w : bad) {
            Check.due("bad pace", b.pace(w[0], w[1]), -2);
        }
        Check.due("bad ones change nothing", b.delay(0, -10, 4000), 4);
        b.look(0);
        Check.due("there are looks", b.pace(1, 1), -3);
        Check.due("bad goes first", b.pace(0, 1), -2);
        Check.due("no changes nothing", b.delay(0, -10, 4000), 4);
        b.probe(2, -10, 20);
        Check.due("no looks any more", b.pace(1, 1), 1);
        Check.due("new pace", b.delay(0, -10, 4000), 4000);
    }

    private static void promise4Dead() {
        SoundBoard b = new SoundBoard();
        b.probe(3, 0, 1);
        Check.due("alive already", b.dead(1, false), -3);
        Check.due("dies", b.dead(1, true), 1);
        Check.due("two alive", b.count(1), 2);
        Check.due("all are counted still", b.count(0), 3);
        Check.due("dead already", b.dead(1, true), -3);
        Check.due("has no weight", b.weight(1, 0, 0), 0);
        Check.due("sends nothing", b.look(1), -3);
        Check.due("dies too", b.dead(0, true), 1);
        Check.due("the last one", b.dead(2, true), -3);
        Check.due("one alive", b.count(1), 1);
        Check.due("back", b.dead(1, false), 1);
        Check.due("weighs again", b.weight(1, 0, 0), 1);
        Check.due("now not the last one", b.dead(2, true), 1);
        int[] bad = {-1, 3, 16, Integer.MAX_VALUE, Integer.MIN_VALUE};
        for (int i : bad) {
            Check.due("bad element", b.dead(i, true), -2);
            Check.due("bad element", b.dead(i, false), -2);
        }
        Check.due("one alive", b.count(1), 1);
    }

    private static void promise5Delay() {
        SoundBoard b = new SoundBoard();
        b.probe(2, 0, 3);
        Check.due("3, 4", b.delay(1, 0, 4), 5);
        Check.due("from the other side", b.delay(1, 6, 4), 5);
        Check.due("root of 2", b.delay(0, 1, 1), 1);
        Check.due("root of 8", b.delay(0, 2, 2), 3);
        b.dead(0, true);
        Check.due("a dead one has a delay", b.delay(0, 2, 2), 3);
        int[][] bad = {{-1, 0, 0}, {2, 0, 0}, {0, -2001, 0}, {0, 2001, 0}, {0, 0, -1}, {0, 0, 4001},
            {Integer.MIN_VALUE, 0, 0}, {0, Integer.MIN_VALUE, 0}, {0, 0, Integer.MIN_VALUE}, {0, 0, Integer.MAX_VALUE}};
        for (int[] w : bad) {
            Check.due("bad delay", b.delay(w[0], w[1], w[2]), -2);
        }
        b.probe(2, -2000, 200);
        Check.due("the farthest", b.delay(0, 2000, 4000), 5657);
        Check.due("edge", b.delay(0, -2000, 4000), 4000);
        b.pace(1, 1000);
        Check.due("the farthest and slowest", b.delay(0, 2000, 4000), 5656854);
    }

    private static void promise5HalfWay() {
        SoundBoard b = new SoundBoard();
        b.pace(2, 1);
        Check.due("half of 1", b.delay(0, -10, 1), 1);
        Check.due("half of 3", b.delay(0, -10, 3), 2);
        Check.due("half of 2", b.delay(0, -10, 2), 1);
        b.pace(1000, 1);
        Check.due("just below the half", b.delay(0, -10, 499), 0);
        Check.due("the half", b.delay(0, -10, 500), 1);
        Check.due("the next half", b.delay(0, -10, 1500), 2);
        Check.due("just below the next half", b.delay(0, -10, 1499), 1);
        // The squares of the ways are 1 off from those of the odd numbers 3, 5329 and 5507.
        b.probe(2, -2000, 1);
        b.pace(2, 1);
        Check.due("below one and a half", b.delay(0, -1998, 2), 1);
        Check.due("above one and a half", b.delay(0, -1999, 3), 2);
        Check.due("just below a half", b.delay(0, 1732, 3804), 2664);
        Check.due("just above a half", b.delay(0, 1877, 3911), 2754);
    }
}
