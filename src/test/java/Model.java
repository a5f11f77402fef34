import java.math.BigDecimal;
import java.math.BigInteger;
import java.math.RoundingMode;
import java.util.ArrayList;
import java.util.List;
import java.util.TreeMap;

/**
 * The document once more, written in another way than the program: no rows but maps of what was heard, exact
 * fractions instead of roots, and lists that lose their first one. Slow, and for comparing alone.
 */
final class Model {
    private static final int NO_VALUE = -1000000000;

    private record Sent(int sender, List<TreeMap<Integer, Integer>> rows) {
    }

    private record Shown(int w, int h, List<Integer> values) {
    }

    private record Laid(int lines, int means, int r, List<Integer> values) {
    }

    private final List<Integer> xs = new ArrayList<>(List.of(-10, 10));
    private final List<Boolean> dead = new ArrayList<>(List.of(false, false));
    private final List<int[]> points = new ArrayList<>();
    private final List<Sent> looks = new ArrayList<>();
    private final List<Shown> pictures = new ArrayList<>();
    private Laid fan = null;
    private int p = 1;
    private int q = 1;
    private int window = 0;
    private int f = 2;
    private int cap = 100000;
    private int heat = 0;
    private int ever = 0;

    private static boolean out(int value, int least, int most) {
        return value < least || most < value;
    }

    private static boolean nowhere(int x, int z) {
        return out(x, -2000, 2000) || out(z, 0, 4000);
    }

    private int alive() {
        int n = 0;
        for (boolean d : dead) {
            n += d ? 0 : 1;
        }
        return n;
    }

    int probe(int n, int first, int pitch) {
        if (out(n, 2, 16) || out(pitch, 1, 200) || nowhere(first, 0) || nowhere(first + (n - 1) * pitch, 0)) {
            return -2;
        }
        xs.clear();
        dead.clear();
        for (int i = 0; i < n; i++) {
            xs.add(i == 0 ? first : xs.get(i - 1) + pitch);
            dead.add(false);
        }
        looks.clear();
        pictures.clear();
        heat = 0;
        return 1;
    }

    int pace(int newP, int newQ) {
        if (out(newP, 1, 1000) || out(newQ, 1, 1000)) {
            return -2;
        }
        if (!looks.isEmpty()) {
            return -3;
        }
        p = newP;
        q = newQ;
        return 1;
    }

    int dead(int i, boolean so) {
        if (out(i, 0, xs.size() - 1)) {
            return -2;
        }
        if (dead.get(i) == so) {
            return -3;
        }
        if (so && alive() == 1) {
            return -3;
        }
        dead.set(i, so);
        return 1;
    }

    int delay(int i, int x, int z) {
        return out(i, 0, xs.size() - 1) || nowhere(x, z) ? -2 : ticks(i, x, z);
    }

    /** The greatest n for which n less a half is no more than the way in ticks. */
    private int ticks(int i, int x, int z) {
        long square = ((long) x - xs.get(i)) * ((long) x - xs.get(i)) + (long) z * z;
        int n = (int) (Math.sqrt((double) square) * q / p) + 2;
        while (n > 0 && above(n, square)) {
            n--;
        }
        return n;
    }

    private boolean above(int n, long square) {
        BigInteger twice = BigInteger.valueOf(2L * n - 1).multiply(BigInteger.valueOf(p));
        BigInteger way = BigInteger.valueOf(2L * q);
        return twice.multiply(twice).compareTo(way.multiply(way).multiply(BigInteger.valueOf(square))) > 0;
    }

    int point(int x, int z, int strength, int dx, int dz) {
        if (nowhere(x, z) || out(strength, -100, 100) || out(dx, -200, 200) || out(dz, -200, 200)) {
            return -2;
        }
        if (points.size() == 8) {
            return -4;
        }
        points.add(new int[] {x, z, strength, dx, dz});
        return points.size() - 1;
    }

    int clear() {
        int n = points.size();
        points.clear();
        return n;
    }

    int pointAt(int k, int what) {
        return out(k, 0, points.size() - 1) || out(what, 0, 2) ? -5000 : points.get(k)[what];
    }

    int look(int sender) {
        if (out(sender, 0, xs.size() - 1)) {
            return -2;
        }
        if (dead.get(sender)) {
            return -3;
        }
        int more = (int) Math.round(Math.pow(alive(), 3));
        if (heat + more > cap) {
            return -5;
        }
        heat += more;
        ever++;
        List<TreeMap<Integer, Integer>> rows = new ArrayList<>();
        for (int i = 0; i < xs.size(); i++) {
            TreeMap<Integer, Integer> heard = new TreeMap<>();
            for (int[] point : points) {
                if (!dead.get(i)) {
                    int d = ticks(sender, point[0], point[1]) + ticks(i, point[0], point[1]);
                    heard.merge(d - 1, point[2], Integer::sum);
                    heard.merge(d, point[2], Integer::sum);
                    heard.merge(d, point[2], Integer::sum);
                    heard.merge(d + 1, point[2], Integer::sum);
                }
            }
            heard.headMap(0).clear();
            heard.tailMap(400).clear();
            rows.add(heard);
        }
        looks.add(new Sent(sender, rows));
        if (looks.size() == 7) {
            looks.remove(0);
        }
        for (int[] point : points) {
            point[0] = Math.min(2000, Math.max(-2000, point[0] + point[3]));
            point[1] = Math.min(4000, Math.max(0, point[1] + point[4]));
        }
        return looks.size();
    }

    private int heard(int look, int i, int s) {
        return looks.get(look).rows().get(i).getOrDefault(s, 0);
    }

    int sample(int look, int i, int s) {
        if (out(look, 0, looks.size() - 1) || out(i, 0, xs.size() - 1) || out(s, 0, 399)) {
            return -1000000;
        }
        return heard(look, i, s);
    }

    int window(int w, int newF) {
        if (out(w, 0, 2) || out(newF, 1, 9)) {
            return -2;
        }
        int was = window;
        window = w;
        f = newF;
        return was;
    }

    int weight(int i, int x, int z) {
        return out(i, 0, xs.size() - 1) || nowhere(x, z) ? -2 : weighed(i, x, z);
    }

    private int weighed(int i, int x, int z) {
        int e = x > xs.get(i) ? x - xs.get(i) : xs.get(i) - x;
        int v = z / f;
        if (dead.get(i)) {
            return 0;
        }
        if (window == 0) {
            return 1;
        }
        if (window == 1) {
            return e > v ? 0 : 1;
        }
        return Math.max(0, v - e + 1);
    }

    int sum(int look, int x, int z) {
        return out(look, 0, looks.size() - 1) || nowhere(x, z) ? NO_VALUE : (int) summed(look, x, z);
    }

    private long summed(int look, int x, int z) {
        long total = 0;
        for (int i = 0; i < xs.size(); i++) {
            int d = ticks(looks.get(look).sender(), x, z) + ticks(i, x, z);
            total += (long) weighed(i, x, z) * heard(look, i, d);
        }
        return total;
    }

    private boolean noLooks(int bits) {
        return bits <= 0 || bits >= 1 << looks.size();
    }

    int mean(int bits, int x, int z) {
        return noLooks(bits) || nowhere(x, z) ? NO_VALUE : meant(bits, x, z);
    }

    private int meant(int bits, int x, int z) {
        if (nowhere(x, z)) {
            return 0;
        }
        long total = 0;
        long weights = 0;
        for (int look = 0; look < looks.size(); look++) {
            if (Integer.toBinaryString(bits | 64).charAt(6 - look) == '1') {
                total += summed(look, x, z);
                for (int i = 0; i < xs.size(); i++) {
                    weights += weighed(i, x, z);
                }
            }
        }
        return weights == 0 ? 0 : cut(total, weights);
    }

    private static int cut(long what, long by) {
        return BigDecimal.valueOf(what).divide(BigDecimal.valueOf(by), 0, RoundingMode.DOWN).intValueExact();
    }

    int picture(int bits, int x0, int z0, int sx, int sz, int w, int h) {
        if (noLooks(bits) || nowhere(x0, z0) || out(sx, 1, 500) || out(sz, 1, 500) || out(w, 1, 16) || out(h, 1, 16)) {
            return -2;
        }
        List<Integer> values = new ArrayList<>();
        for (int l = 0; l < h; l++) {
            for (int k = 0; k < w; k++) {
                values.add(meant(bits, x0 + k * sx, z0 + l * sz));
            }
        }
        return keep(new Shown(w, h, values));
    }

    private int keep(Shown shown) {
        pictures.add(shown);
        if (pictures.size() == 5) {
            pictures.remove(0);
        }
        return pictures.size();
    }

    private boolean noPicture(int n) {
        return out(n, 0, pictures.size() - 1);
    }

    int pixel(int n, int k, int l) {
        if (noPicture(n) || out(k, 0, pictures.get(n).w() - 1) || out(l, 0, pictures.get(n).h() - 1)) {
            return NO_VALUE;
        }
        return pictures.get(n).values().get(k + l * pictures.get(n).w());
    }

    int about(int n, int what) {
        if (noPicture(n) || out(what, 0, 3)) {
            return -2;
        }
        Shown shown = pictures.get(n);
        int greatest = java.util.Collections.max(shown.values());
        return new int[] {shown.w(), shown.h(), greatest, shown.values().indexOf(greatest)}[what];
    }

    int differ(int one, int other) {
        if (noPicture(one) || noPicture(other)) {
            return -2;
        }
        Shown a = pictures.get(one);
        Shown b = pictures.get(other);
        if (a.w() != b.w() || a.h() != b.h()) {
            return -3;
        }
        List<Integer> values = new ArrayList<>();
        for (int n = 0; n < a.values().size(); n++) {
            values.add(a.values().get(n) - b.values().get(n));
        }
        return keep(new Shown(a.w(), a.h(), values));
    }

    int turn(int look, int other, int x, int z) {
        if (out(look, 0, looks.size() - 1) || out(other, 0, looks.size() - 1) || nowhere(x, z)) {
            return -100;
        }
        if (looks.get(look).sender() != looks.get(other).sender()) {
            return -101;
        }
        long[] sums = new long[17];
        long greatest = Long.MIN_VALUE;
        for (int s = -8; s <= 8; s++) {
            for (int i = 0; i < xs.size(); i++) {
                int d = ticks(looks.get(look).sender(), x, z) + ticks(i, x, z);
                for (int t = -6; t <= 6; t++) {
                    sums[s + 8] += (long) heard(look, i, d + t) * heard(other, i, d + t + s);
                }
            }
            greatest = Math.max(greatest, sums[s + 8]);
        }
        for (int s : new int[] {0, -1, 1, -2, 2, -3, 3, -4, 4, -5, 5, -6, 6, -7, 7, -8, 8}) {
            if (sums[s + 8] == greatest) {
                return s;
            }
        }
        throw new IllegalStateException("no turn");
    }

    int fan(int look, int lines, int means, int r) {
        if (out(look, 0, looks.size() - 1) || out(lines, 2, 9) || out(means, 2, 16) || out(r, 1, 250)) {
            return -2;
        }
        List<Integer> values = new ArrayList<>();
        for (int a = 0; a < lines; a++) {
            for (int k = 0; k < means; k++) {
                values.add(meant(1 << look, cut((long) k * r * (a - cut(lines - 1, 2)), 8), k * r));
            }
        }
        fan = new Laid(lines, means, r, values);
        return 1;
    }

    int fanAt(int a, int k) {
        return fan == null || out(a, 0, fan.lines() - 1) || out(k, 0, fan.means() - 1) ? NO_VALUE : line(a, k);
    }

    private int line(int a, int k) {
        return a >= fan.lines() || k >= fan.means() ? 0 : fan.values().get(a * fan.means() + k);
    }

    int board(int w, int h, int s, int u, int v) {
        if (out(w, 2, 12) || out(h, 2, 12) || out(s, 1, 500) || out(u, 0, w - 1) || out(v, 0, h - 1) || fan == null) {
            return NO_VALUE;
        }
        int x = cut((long) s * (2 * u - w + 1), 2);
        int z = s * v;
        int m = cut(fan.lines() - 1, 2);
        int deep = cut(16L * z, fan.r());
        int wide = z == 0 ? 16 * m : 16 * m + cut(128L * x, z);
        if (wide < 0 || wide > 16 * (fan.lines() - 1) || deep > 16 * (fan.means() - 1)) {
            return 0;
        }
        int k = deep / 16;
        int rest = deep - 16 * k;
        int a = wide / 16;
        int g = wide - 16 * a;
        long total = (16L - g) * (16 - rest) * line(a, k);
        total += (long) g * (16 - rest) * line(a + 1, k);
        total += (16L - g) * rest * line(a, k + 1);
        total += (long) g * rest * line(a + 1, k + 1);
        return cut(total, 256);
    }

    int caliper(int x, int z, int ox, int oz) {
        if (nowhere(x, z) || nowhere(ox, oz)) {
            return -2;
        }
        BigInteger a = BigInteger.valueOf((long) x - ox);
        BigInteger b = BigInteger.valueOf((long) z - oz);
        return a.multiply(a).add(b.multiply(b)).sqrt().intValueExact();
    }

    int cap(int c) {
        if (out(c, 0, 1000000)) {
            return -2;
        }
        int was = cap;
        cap = c;
        return was;
    }

    int tick(int n) {
        if (out(n, 1, 1000)) {
            return -2;
        }
        for (int i = 0; i < n; i++) {
            heat -= heat / 32 + (heat % 32 == 0 ? 0 : 1);
        }
        return heat;
    }

    int count(int what) {
        if (out(what, 0, 6)) {
            return -2;
        }
        return new int[] {xs.size(), alive(), points.size(), looks.size(), pictures.size(), heat, ever}[what];
    }

    long digest() {
        List<Long> all = new ArrayList<>();
        for (int what = 0; what <= 6; what++) {
            all.add((long) count(what));
        }
        for (int[] point : points) {
            all.add((long) point[0]);
            all.add((long) point[1]);
        }
        for (Sent sent : looks) {
            all.add((long) sent.sender());
            for (TreeMap<Integer, Integer> heard : sent.rows()) {
                long total = 0;
                for (int s : heard.keySet()) {
                    total += (s + 1L) * heard.get(s);
                }
                all.add(total);
            }
        }
        for (Shown shown : pictures) {
            for (int value : shown.values()) {
                all.add((long) value);
            }
        }
        long h = 131;
        for (long v : all) {
            h = 31 * h + v;
        }
        return h;
    }
}
