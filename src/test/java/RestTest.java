/** Promises 23 to 27: caliper, cap, tick, count, digest. */
public final class RestTest {
    public static void main(String[] args) {
        promise23Caliper();
        promise24Cap();
        promise25Tick();
        promise26Count();
        promise27Digest();
        promise27ByHand();
        promise27AllRows();
        Check.end("RestTest");
    }

    private static void promise23Caliper() {
        SoundBoard b = new SoundBoard();
        int[][] due = {{0, 0, 0, 0, 0}, {0, 0, 3, 4, 5}, {3, 4, 0, 0, 5}, {-3, 0, 0, 4, 5}, {0, 0, 1, 1, 1}, {0, 0, 2, 2, 2},
            {0, 0, 1, 0, 1}, {0, 0, 0, 1, 1}, {-2000, 0, 2000, 4000, 5656}, {2000, 4000, -2000, 0, 5656},
            {-2000, 0, 2000, 0, 4000}, {0, 0, 0, 4000, 4000}, {-2000, 0, 2000, 3000, 5000}, {-2000, 0, 1732, 3804, 5328},
            {-2000, 0, 1877, 3911, 5507}, {7, 7, 8, 8, 1}, {0, 0, 2, 1, 2}, {0, 0, 3, 2, 3}};
        for (int[] d : due) {
            Check.due("caliper", b.caliper(d[0], d[1], d[2], d[3]), d[4]);
        }
        for (int x = -2000; x <= 2000; x += 37) {
            for (int z = 0; z <= 4000; z += 53) {
                long far = b.caliper(-1999, 1, x, z);
                long square = (x + 1999L) * (x + 1999L) + (z - 1L) * (z - 1L);
                Check.holds("no greater than the root", far * far <= square);
                Check.holds("none greater is", (far + 1) * (far + 1) > square);
            }
        }
        int[][] edges = {{-2001, 2001}, {-1, 4001}, {-2001, 2001}, {-1, 4001}};
        for (int place = 0; place < 4; place++) {
            int[] wrong = {edges[place][0], edges[place][1], Integer.MIN_VALUE, Integer.MAX_VALUE};
            for (int value : wrong) {
                int[] a = new int[4];
                a[place] = value;
                Check.due("bad caliper", b.caliper(a[0], a[1], a[2], a[3]), -2);
            }
        }
    }

    private static void promise24Cap() {
        SoundBoard b = new SoundBoard();
        Check.due("at first", b.cap(0), 100000);
        Check.due("least", b.look(0), -5);
        Check.due("was 0", b.cap(1000000), 0);
        Check.due("was the most", b.cap(7), 1000000);
        int[] bad = {-1, 1000001, Integer.MIN_VALUE, Integer.MAX_VALUE};
        for (int c : bad) {
            Check.due("bad cap", b.cap(c), -2);
        }
        Check.due("one below", b.look(0), -5);
        Check.due("bad ones change nothing", b.cap(8), 7);
        Check.due("just enough", b.look(0), 1);
        Check.due("below the heat", b.cap(3), 8);
        Check.due("heat stays", b.count(5), 8);
        Check.due("hot", b.look(0), -5);
    }

    private static void promise25Tick() {
        SoundBoard b = new SoundBoard();
        Check.due("cold", b.tick(1000), 0);
        b.probe(4, 0, 1);
        b.look(0);
        Check.due("64 less 2", b.tick(1), 62);
        Check.due("62 less 2", b.tick(1), 60);
        Check.due("that is the heat", b.count(5), 60);
        int heat = 60;
        for (int n = 0; n < 17; n++) {
            heat -= (heat + 31) / 32;
        }
        Check.due("seventeen times", b.tick(17), heat);
        b.probe(2, 0, 1);
        for (int n = 0; n < 4; n++) {
            b.look(0);
        }
        Check.due("32 less 1", b.tick(1), 31);
        Check.due("31 less 1", b.tick(1), 30);
        b.look(0);
        Check.due("38 less 2", b.tick(1), 36);
        int[] bad = {0, -1, 1001, Integer.MIN_VALUE, Integer.MAX_VALUE};
        for (int n : bad) {
            Check.due("bad tick", b.tick(n), -2);
        }
        Check.due("bad ones change nothing", b.count(5), 36);
        Check.due("to the end", b.tick(1000), 0);
    }

    private static void promise26Count() {
        SoundBoard b = new SoundBoard();
        b.probe(5, 0, 1);
        b.dead(1, true);
        b.dead(2, true);
        b.point(0, 0, 0, 0, 0);
        b.point(0, 0, 0, 0, 0);
        for (int n = 0; n < 8; n++) {
            b.look(0);
        }
        b.picture(1, 0, 0, 1, 1, 1, 1);
        b.differ(0, 0);
        b.picture(1, 0, 0, 1, 1, 1, 1);
        int[] due = {5, 3, 2, 6, 3, 27 * 8, 8};
        for (int what = 0; what < due.length; what++) {
            Check.due("count " + what, b.count(what), due[what]);
        }
        int[] bad = {-1, 7, Integer.MIN_VALUE, Integer.MAX_VALUE};
        for (int what : bad) {
            Check.due("bad count", b.count(what), -2);
        }
        b.cap(27 * 8);
        Check.due("hot", b.look(0), -5);
        Check.due("a refused one is no look", b.count(6), 8);
        b.probe(2, 0, 1);
        Check.due("ever", b.count(6), 8);
    }

    private static void promise27Digest() {
        SoundBoard b = new SoundBoard();
        b.probe(3, -5, 6);
        b.point(3, 40, 17, -5, 9);
        b.point(-100, 90, -23, 1, 0);
        b.point(1, 0, 5, 0, 0);
        b.look(2);
        b.dead(0, true);
        for (int n = 0; n < 6; n++) {
            b.look(1);
        }
        b.picture(63, -20, 60, 5, 7, 6, 9);
        b.picture(33, -20, 60, 6, 7, 16, 16);
        b.picture(63, -20, 80, 5, 9, 6, 9);
        b.differ(0, 2);
        Check.due("digest", b.digest(), digestOf(b));
        b.picture(2, -20, 80, 5, 9, 2, 3);
        Check.due("digest of the next ring", b.digest(), digestOf(b));
        Check.due("it changes nothing", b.digest(), digestOf(b));
        long before = b.digest();
        b.clear();
        Check.due("without points", b.digest(), digestOf(b));
        Check.holds("is another", b.digest() != before);
    }

    /** The digest by what the other calls answer. */
    private static long digestOf(SoundBoard b) {
        long h = 131;
        for (int what = 0; what <= 6; what++) {
            h = 31 * h + b.count(what);
        }
        for (int k = 0; k < b.count(2); k++) {
            h = 31 * (31 * h + b.pointAt(k, 0)) + b.pointAt(k, 1);
        }
        for (int look = 0; look < b.count(3); look++) {
            // In these runs element 1 sends every look but those that are gone.
            h = 31 * h + 1;
            for (int i = 0; i < b.count(0); i++) {
                long total = 0;
                for (int s = 0; s < 400; s++) {
                    total += (s + 1L) * b.sample(look, i, s);
                }
                h = 31 * h + total;
            }
        }
        for (int p = 0; p < b.count(4); p++) {
            for (int l = 0; l < b.about(p, 1); l++) {
                for (int k = 0; k < b.about(p, 0); k++) {
                    h = 31 * h + b.pixel(p, k, l);
                }
            }
        }
        return h;
    }

    private static void promise27ByHand() {
        SoundBoard b = new SoundBoard();
        b.dead(0, true);
        b.point(10, 5, 3, -1, 2);
        b.look(1);
        b.picture(1, 10, 5, 1, 1, 1, 1);
        // Element 1 has 3, 6, 3 at samples 9, 10, 11: 3 * 10 + 6 * 11 + 3 * 12; the point is at 9, 7 now.
        long[] parts = {2, 1, 1, 1, 1, 1, 1, 9, 7, 1, 0, 132, 6};
        long h = 131;
        for (long v : parts) {
            h = 31 * h + v;
        }
        Check.due("digest by hand", b.digest(), h);
        SoundBoard c = new SoundBoard();
        c.point(-10, 5, 3, 0, 0);
        c.look(0);
        // d is 10 for element 0 and 5 and 21 for element 1: 132 as before, and 3 * 26 + 6 * 27 + 3 * 28.
        long[] others = {2, 2, 1, 1, 0, 8, 1, -10, 5, 0, 132, 324};
        h = 131;
        for (long v : others) {
            h = 31 * h + v;
        }
        Check.due("digest of two rows", c.digest(), h);
    }

    /** As many rows as there may be: each one of each look counts, the last one of the last look too. */
    private static void promise27AllRows() {
        SoundBoard b = new SoundBoard();
        b.probe(16, -8, 1);
        b.point(0, 50, 100, 0, 3);
        for (int n = 1; n <= 7; n++) {
            b.dead(15, true);
            b.look(1);
            b.dead(15, false);
            b.look(1);
            Check.due("digest of " + b.count(3) + " looks of 16 rows", b.digest(), digestOf(b));
        }
        // Looks of one point at -8, 0: element i's d is i, and i + 2 (i + 1) + (i + 2) is 4 i + 4; what is before the
        // row for i 0 would have counted 0 times.
        SoundBoard c = new SoundBoard();
        c.probe(16, -8, 1);
        c.point(-8, 0, 5, 0, 0);
        long h = 131;
        long[] counts = {16, 16, 1, 6, 0, 6 * 16 * 16 * 16, 6, -8, 0};
        for (long v : counts) {
            h = 31 * h + v;
        }
        for (int look = 0; look < 6; look++) {
            c.look(0);
            h = 31 * h;
            for (int i = 0; i < 16; i++) {
                h = 31 * h + 5 * (4 * i + 4);
            }
        }
        Check.due("digest of all rows by hand", c.digest(), h);
    }
}
