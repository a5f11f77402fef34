/**
 * All promises: long runs of calls, each answered by the program and by the model. The arguments come from a
 * fixed row of numbers, so that every run of this test is the same.
 */
public final class ModelTest {
    private static final int RUNS = 150;
    private static final int CALLS = 512;
    private static final int[] ODD = {-1, 0, 1, 2, 3, 8, 9, 16, 17, 250, 251, 400, 500, 501, 1000, 1001, -2000, -2001,
        2000, 2001, 4000, 4001, -100, -101, 1000000, 1000001, Integer.MAX_VALUE, Integer.MIN_VALUE};
    // How often each of the calls comes, in the order of ask's cases.
    private static final int[] OFTEN = {1, 2, 5, 6, 12, 1, 4, 22, 10, 5, 8, 8, 8, 6, 6, 3, 6, 10, 6, 6, 10, 6, 2, 4, 4, 4};

    private final SoundBoard board = new SoundBoard();
    private final Model model = new Model();
    private long state;
    private int wildness;

    private ModelTest(int run) {
        state = 88172645463325252L + 7919L * run;
        wildness = run % 3 == 0 ? 6 : 60;
    }

    public static void main(String[] args) {
        for (int run = 0; run < RUNS; run++) {
            new ModelTest(run).go(run);
        }
        Check.end("ModelTest");
    }

    private int below(int n) {
        state ^= state << 13;
        state ^= state >>> 7;
        state ^= state << 17;
        return (int) Math.floorMod(state, (long) n);
    }

    /** A number of least .. most, or now and then one that is likely to be wrong. */
    private int of(int least, int most) {
        if (below(wildness) == 0) {
            return ODD[below(ODD.length)];
        }
        return least + below(most - least + 1);
    }

    private int x() {
        return below(12) == 0 ? of(-2000, 2000) : of(-60, 60);
    }

    private int z() {
        return below(12) == 0 ? of(0, 4000) : of(0, 110);
    }

    private int looks() {
        return of(1, Math.max(1, (1 << board.count(3)) - 1));
    }

    private int one(int what) {
        return of(0, Math.max(0, board.count(what) - 1));
    }

    private void go(int run) {
        int often = 0;
        for (int n : OFTEN) {
            often += n;
        }
        for (int call = 0; call < CALLS; call++) {
            int pick = call < 12 ? new int[] {0, 1, 4, 4, 4, 4, 4, 4, 7, 7, 9, 13}[call] : -1;
            for (int left = below(often); pick < 0 || left >= 0 && call >= 12;) {
                pick++;
                left -= OFTEN[pick];
            }
            ask(pick, "run " + run + ", call " + call + ": ");
            if (call % 16 == 15) {
                Check.due("run " + run + ", digest after call " + call, board.digest(), model.digest());
            }
        }
    }

    private void ask(int pick, String at) {
        int[] a;
        switch (pick) {
            case 0: {
                a = new int[] {of(2, 16), of(-60, 0), of(1, 15)};
                due(at, "probe", a, board.probe(a[0], a[1], a[2]), model.probe(a[0], a[1], a[2]));
                break;
            }
            case 1: {
                int most = below(4) == 0 ? 1000 : 5;
                a = new int[] {of(1, most), of(1, most)};
                due(at, "pace", a, board.pace(a[0], a[1]), model.pace(a[0], a[1]));
                break;
            }
            case 2: {
                a = new int[] {one(0), below(2)};
                due(at, "dead", a, board.dead(a[0], a[1] == 1), model.dead(a[0], a[1] == 1));
                break;
            }
            case 3: {
                a = new int[] {one(0), x(), z()};
                due(at, "delay", a, board.delay(a[0], a[1], a[2]), model.delay(a[0], a[1], a[2]));
                break;
            }
            case 4: {
                a = new int[] {x(), z(), of(-100, 100), of(-5, 5), of(-5, 5)};
                due(at, "point", a, board.point(a[0], a[1], a[2], a[3], a[4]), model.point(a[0], a[1], a[2], a[3], a[4]));
                break;
            }
            case 5: {
                due(at, "clear", new int[0], board.clear(), model.clear());
                break;
            }
            case 6: {
                a = new int[] {one(2), of(0, 2)};
                due(at, "pointAt", a, board.pointAt(a[0], a[1]), model.pointAt(a[0], a[1]));
                break;
            }
            case 7: {
                a = new int[] {below(3) == 0 ? one(0) : below(2)};
                due(at, "look", a, board.look(a[0]), model.look(a[0]));
                break;
            }
            case 8: {
                a = new int[] {one(3), one(0), of(0, 399)};
                due(at, "sample", a, board.sample(a[0], a[1], a[2]), model.sample(a[0], a[1], a[2]));
                break;
            }
            case 9: {
                a = new int[] {of(0, 2), of(1, 9)};
                due(at, "window", a, board.window(a[0], a[1]), model.window(a[0], a[1]));
                break;
            }
            case 10: {
                a = new int[] {one(0), x(), z()};
                due(at, "weight", a, board.weight(a[0], a[1], a[2]), model.weight(a[0], a[1], a[2]));
                break;
            }
            case 11: {
                a = new int[] {one(3), x(), z()};
                due(at, "sum", a, board.sum(a[0], a[1], a[2]), model.sum(a[0], a[1], a[2]));
                break;
            }
            case 12: {
                a = new int[] {looks(), x(), z()};
                due(at, "mean", a, board.mean(a[0], a[1], a[2]), model.mean(a[0], a[1], a[2]));
                break;
            }
            default:
                askMore(pick, at);
        }
    }

    private void askMore(int pick, String at) {
        int[] a;
        switch (pick) {
            case 13: {
                boolean small = below(3) != 0;
                a = new int[] {looks(), x(), z(), of(1, 20), of(1, 20), small ? of(1, 3) : of(1, 16), small ? of(1, 3) : of(1, 16)};
                due(at, "picture", a, board.picture(a[0], a[1], a[2], a[3], a[4], a[5], a[6]),
                    model.picture(a[0], a[1], a[2], a[3], a[4], a[5], a[6]));
                break;
            }
            case 14: {
                a = new int[] {one(4), of(0, 4), of(0, 4)};
                due(at, "pixel", a, board.pixel(a[0], a[1], a[2]), model.pixel(a[0], a[1], a[2]));
                break;
            }
            case 15: {
                a = new int[] {one(4), of(0, 3)};
                due(at, "about", a, board.about(a[0], a[1]), model.about(a[0], a[1]));
                break;
            }
            case 16: {
                a = new int[] {one(4), one(4)};
                due(at, "differ", a, board.differ(a[0], a[1]), model.differ(a[0], a[1]));
                break;
            }
            case 17: {
                a = new int[] {one(3), one(3), x(), z()};
                // Where a point is, there is something to turn about.
                if (below(2) == 0 && board.count(2) > 0) {
                    int k = below(board.count(2));
                    a[2] = board.pointAt(k, 0);
                    a[3] = board.pointAt(k, 1);
                }
                due(at, "turn", a, board.turn(a[0], a[1], a[2], a[3]), model.turn(a[0], a[1], a[2], a[3]));
                break;
            }
            case 18: {
                a = new int[] {one(3), of(2, 9), of(2, 16), below(4) == 0 ? of(1, 250) : of(1, 12)};
                due(at, "fan", a, board.fan(a[0], a[1], a[2], a[3]), model.fan(a[0], a[1], a[2], a[3]));
                break;
            }
            case 19: {
                a = new int[] {of(0, 8), of(0, 15)};
                due(at, "fanAt", a, board.fanAt(a[0], a[1]), model.fanAt(a[0], a[1]));
                break;
            }
            case 20: {
                a = new int[] {of(2, 12), of(2, 12), below(4) == 0 ? of(1, 500) : of(1, 12), of(0, 11), of(0, 11)};
                due(at, "board", a, board.board(a[0], a[1], a[2], a[3], a[4]), model.board(a[0], a[1], a[2], a[3], a[4]));
                break;
            }
            case 21: {
                a = new int[] {x(), z(), x(), z()};
                due(at, "caliper", a, board.caliper(a[0], a[1], a[2], a[3]), model.caliper(a[0], a[1], a[2], a[3]));
                break;
            }
            case 22: {
                a = new int[] {below(3) == 0 ? of(0, 9000) : of(0, 1000000)};
                due(at, "cap", a, board.cap(a[0]), model.cap(a[0]));
                break;
            }
            case 23: {
                a = new int[] {below(2) == 0 ? of(1, 5) : of(1, 1000)};
                due(at, "tick", a, board.tick(a[0]), model.tick(a[0]));
                break;
            }
            case 24: {
                a = new int[] {of(0, 6)};
                due(at, "count", a, board.count(a[0]), model.count(a[0]));
                break;
            }
            default: {
                due(at, "digest", new int[0], board.digest(), model.digest());
                break;
            }
        }
    }

    private static void due(String at, String name, int[] a, long got, long want) {
        if (got != want) {
            Check.due(at + name + java.util.Arrays.toString(a), got, want);
        } else {
            Check.due(name, got, want);
        }
    }
}
