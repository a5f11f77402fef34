/** Promises 6 to 10: point, clear, pointAt, look, sample. */
public final class LookTest {
    public static void main(String[] args) {
        promise6Point();
        promise7Clear();
        promise8PointAt();
        promise9Look();
        promise9Refused();
        promise9Moves();
        promise9Seventh();
        promise10Sample();
        promise10Ends();
        promise10Adds();
        Check.end("LookTest");
    }

    private static void promise6Point() {
        SoundBoard b = new SoundBoard();
        int[][] good = {{-2000, 0, -100, -200, -200}, {2000, 4000, 100, 200, 200}, {0, 0, 0, 0, 0}};
        for (int k = 0; k < good.length; k++) {
            int[] g = good[k];
            Check.due("point", b.point(g[0], g[1], g[2], g[3], g[4]), k);
        }
        int[] fine = {1, 2, 3, 4, 5};
        int[][] edges = {{-2001, 2001}, {-1, 4001}, {-101, 101}, {-201, 201}, {-201, 201}};
        for (int place = 0; place < 5; place++) {
            int[] wrong = {edges[place][0], edges[place][1], Integer.MIN_VALUE, Integer.MAX_VALUE};
            for (int value : wrong) {
                int[] a = fine.clone();
                a[place] = value;
                Check.due("bad point " + place, b.point(a[0], a[1], a[2], a[3], a[4]), -2);
            }
        }
        Check.due("bad ones are not kept", b.count(2), 3);
        for (int k = 3; k < 8; k++) {
            Check.due("point", b.point(1, 2, 3, 4, 5), k);
        }
        Check.due("full", b.point(1, 2, 3, 4, 5), -4);
        Check.due("bad before full", b.point(2001, 2, 3, 4, 5), -2);
        Check.due("eight", b.count(2), 8);
    }

    private static void promise7Clear() {
        SoundBoard b = new SoundBoard();
        Check.due("none", b.clear(), 0);
        b.point(1, 2, 3, 0, 0);
        b.point(1, 2, 3, 0, 0);
        b.look(0);
        Check.due("two", b.clear(), 2);
        Check.due("none left", b.count(2), 0);
        Check.due("looks stay", b.count(3), 1);
        Check.due("again", b.clear(), 0);
        Check.due("numbers begin anew", b.point(5, 6, 7, 0, 0), 0);
        Check.due("what is there now", b.pointAt(0, 0), 5);
    }

    private static void promise8PointAt() {
        SoundBoard b = new SoundBoard();
        b.point(11, 22, 33, 44, 55);
        b.point(-11, 0, -33, 0, 0);
        Check.due("x", b.pointAt(0, 0), 11);
        Check.due("z", b.pointAt(0, 1), 22);
        Check.due("strength", b.pointAt(0, 2), 33);
        Check.due("x", b.pointAt(1, 0), -11);
        Check.due("z", b.pointAt(1, 1), 0);
        Check.due("strength", b.pointAt(1, 2), -33);
        int[] wrong = {-1, 3, 4, Integer.MIN_VALUE, Integer.MAX_VALUE};
        for (int what : wrong) {
            Check.due("bad what", b.pointAt(0, what), -5000);
        }
        int[] none = {-1, 2, 8, Integer.MIN_VALUE, Integer.MAX_VALUE};
        for (int k : none) {
            Check.due("no such point", b.pointAt(k, 0), -5000);
        }
        b.clear();
        Check.due("none any more", b.pointAt(0, 0), -5000);
    }

    private static void promise9Look() {
        SoundBoard b = new SoundBoard();
        // Element 0 is 10 ticks away from the point, element 1 is 30.
        b.probe(2, -10, 40);
        b.point(0, 0, 9, 0, 0);
        Check.due("look", b.look(0), 1);
        int[][] due = {{19, 9}, {20, 18}, {21, 9}, {18, 0}, {22, 0}};
        for (int[] d : due) {
            Check.due("the sender's own row", b.sample(0, 0, d[0]), d[1]);
            Check.due("the other one's row", b.sample(0, 1, d[0] + 20), d[1]);
        }
        Check.due("from the other one", b.look(1), 2);
        Check.due("first row", b.sample(1, 0, 40), 18);
        Check.due("second row", b.sample(1, 1, 60), 18);
        b.dead(0, true);
        Check.due("one hears", b.look(1), 3);
        Check.due("the dead one's row is 0", b.sample(2, 0, 40), 0);
        Check.due("the alive one's is not", b.sample(2, 1, 60), 18);
        Check.due("rows of before stay", b.sample(0, 0, 20), 18);
        Check.due("heat", b.count(5), 8 + 8 + 1);
        Check.due("ever", b.count(6), 3);
    }

    private static void promise9Refused() {
        SoundBoard b = new SoundBoard();
        b.point(0, 50, 9, 3, 3);
        b.probe(4, 0, 10);
        b.dead(3, true);
        b.cap(27);
        int[] bad = {-1, 4, 16, Integer.MIN_VALUE, Integer.MAX_VALUE};
        for (int t : bad) {
            Check.due("bad sender", b.look(t), -2);
        }
        Check.due("dead sender", b.look(3), -3);
        Check.due("nothing yet", b.count(3), 0);
        Check.due("just at the cap", b.look(0), 1);
        long before = b.digest();
        Check.due("hot", b.look(0), -5);
        Check.due("no before hot", b.look(3), -3);
        Check.due("bad before hot", b.look(4), -2);
        Check.due("refused ones change nothing", b.digest(), before);
        Check.due("nothing moved", b.pointAt(0, 0), 3);
        b.cap(53);
        Check.due("one below", b.look(0), -5);
        b.cap(54);
        Check.due("enough", b.look(0), 2);
        Check.due("heat", b.count(5), 54);
        b.dead(2, true);
        b.cap(62);
        Check.due("two heat less", b.look(0), 3);
        Check.due("heat", b.count(5), 62);
    }

    private static void promise9Moves() {
        SoundBoard b = new SoundBoard();
        b.point(1900, 3900, 1, 200, 200);
        b.point(-1900, 100, 1, -60, -60);
        b.point(0, 100, 1, 5, 0);
        b.look(0);
        int[][] first = {{2000, 4000}, {-1960, 40}, {5, 100}};
        int[][] second = {{2000, 4000}, {-2000, 0}, {10, 100}};
        for (int k = 0; k < 3; k++) {
            Check.due("x after one", b.pointAt(k, 0), first[k][0]);
            Check.due("z after one", b.pointAt(k, 1), first[k][1]);
        }
        b.look(0);
        for (int k = 0; k < 3; k++) {
            Check.due("x after two", b.pointAt(k, 0), second[k][0]);
            Check.due("z after two", b.pointAt(k, 1), second[k][1]);
        }
        // A look hears the points where they were before they moved.
        SoundBoard c = new SoundBoard();
        c.point(-10, 30, 1, 0, 10);
        c.look(0);
        Check.due("where it was", c.sample(0, 0, 60), 2);
        c.look(0);
        Check.due("where it went", c.sample(1, 0, 80), 2);
        Check.due("not where it was", c.sample(1, 0, 60), 0);
    }

    private static void promise9Seventh() {
        SoundBoard b = new SoundBoard();
        b.point(-10, 10, 1, 0, 1);
        for (int n = 1; n <= 9; n++) {
            Check.due("look " + n, b.look(n % 2), Math.min(n, 6));
            Check.due("ever", b.count(6), n);
            int oldest = Math.max(1, n - 5);
            for (int look = 0; look + oldest <= n; look++) {
                if ((look + oldest) % 2 == 0) {
                    Check.due("look " + look + " of " + n, b.sample(look, 0, 2 * (9 + look + oldest)), 2);
                    // Rows that are used again hold nothing of the look that is gone.
                    Check.due("nothing of what was there before", b.sample(look, 0, 2 * (3 + look + oldest)), 0);
                }
            }
        }
        Check.due("no seventh", b.sample(6, 0, 0), -1000000);
        Check.due("six", b.count(3), 6);
    }

    private static void promise10Sample() {
        SoundBoard b = new SoundBoard();
        Check.due("no look", b.sample(0, 0, 0), -1000000);
        b.point(-10, 0, 5, 0, 0);
        b.look(0);
        Check.due("first", b.sample(0, 0, 0), 10);
        Check.due("last", b.sample(0, 1, 399), 0);
        int[][] bad = {{-1, 0, 0}, {1, 0, 0}, {0, -1, 0}, {0, 2, 0}, {0, 16, 0}, {0, 0, -1}, {0, 0, 400},
            {Integer.MAX_VALUE, 0, 0}, {0, Integer.MAX_VALUE, 0}, {0, 0, Integer.MAX_VALUE},
            {Integer.MIN_VALUE, 0, 0}, {0, Integer.MIN_VALUE, 0}, {0, 0, Integer.MIN_VALUE}};
        for (int[] w : bad) {
            Check.due("bad sample", b.sample(w[0], w[1], w[2]), -1000000);
        }
    }

    private static void promise10Ends() {
        // Element 1 is one tick farther from a point below element 0 than element 0 itself.
        int[][] due = {{199, 0, 100, 200, 100}, {199, 1, 0, 100, 200}, {200, 0, 0, 0, 100}, {200, 1, 0, 0, 0}};
        for (int[] d : due) {
            SoundBoard b = new SoundBoard();
            b.probe(2, 0, 20);
            b.point(0, d[0], 100, 0, 0);
            b.look(0);
            for (int s = 397; s <= 399; s++) {
                Check.due("z " + d[0] + ", sample " + s + " of " + d[1], b.sample(0, d[1], s), d[s - 395]);
            }
            Check.due("the next row begins with nothing", b.sample(0, 1, 0), 0);
        }
        SoundBoard b = new SoundBoard();
        b.probe(2, 0, 1);
        b.point(0, 0, 100, 0, 0);
        b.look(0);
        Check.due("d is 0", b.sample(0, 0, 0), 200);
        Check.due("d is 0", b.sample(0, 0, 1), 100);
        Check.due("d is 1", b.sample(0, 1, 0), 100);
        Check.due("nothing runs over to the row before", b.sample(0, 0, 399), 0);
    }

    private static void promise10Adds() {
        SoundBoard b = new SoundBoard();
        for (int k = 0; k < 8; k++) {
            b.point(-10, 100, 100, 0, 0);
        }
        b.look(0);
        Check.due("eight at one place", b.sample(0, 0, 200), 1600);
        b.clear();
        b.point(-10, 100, 100, 0, 0);
        b.point(-10, 100, -100, 0, 0);
        b.point(-10, 101, -7, 0, 0);
        b.look(0);
        Check.due("they cancel", b.sample(1, 0, 200), 0);
        Check.due("one below", b.sample(1, 0, 201), -7);
        Check.due("and another", b.sample(1, 0, 202), -14);
    }
}
