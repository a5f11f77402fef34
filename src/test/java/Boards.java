import java.util.ArrayList;
import java.util.List;
import java.util.function.Supplier;

/** Boards in several states, and all that can be seen of one. */
final class Boards {
    private Boards() {
    }

    /** What a state holds: so many of each, the shape of picture 0, and that of the fan (0: none). */
    record Sizes(int elements, int points, int looks, int pictures, int w, int h, int lines, int means) {
    }

    /** A state that can be made as often as need be: two boards of it are twins. */
    record State(String name, Sizes sizes, Supplier<SoundBoard> made) {
    }

    /** Nothing has been called yet. */
    static final State NEW = new State("new", new Sizes(2, 0, 0, 0, 0, 0, 0, 0), SoundBoard::new);

    /** A little of everything: element 2 is dead, looks 0 and 1 have two senders, the pictures two shapes. */
    static final State LIVED = new State("lived", new Sizes(4, 3, 2, 2, 5, 3, 5, 6), Boards::lived);

    /** All is full and has begun anew: 8 points, 6 of 9 looks, 4 of 6 pictures; heat is at the cap; 15 is dead. */
    static final State FULL = new State("full", new Sizes(16, 8, 6, 4, 16, 16, 9, 16), Boards::full);

    /** Element 1 alone is alive; nothing has been heard yet, and the cap is 0. */
    static final State ALONE = new State("alone", new Sizes(3, 1, 0, 0, 0, 0, 0, 0), Boards::alone);

    static final List<State> ALL = List.of(NEW, LIVED, FULL, ALONE);

    private static SoundBoard lived() {
        SoundBoard b = new SoundBoard();
        b.pace(5, 2);
        b.probe(4, -30, 20);
        b.window(2, 3);
        b.cap(3000);
        b.point(0, 40, 50, 1, 2);
        b.point(-12, 55, -70, -3, 1);
        b.point(20, 33, 90, 2, -2);
        b.look(1);
        b.dead(2, true);
        b.look(0);
        b.fan(0, 5, 6, 9);
        b.picture(3, -10, 32, 5, 4, 5, 3);
        b.picture(1, -10, 32, 5, 4, 3, 5);
        b.tick(2);
        return b;
    }

    private static SoundBoard full() {
        SoundBoard b = new SoundBoard();
        b.probe(16, -150, 20);
        b.window(1, 1);
        for (int k = 0; k < 8; k++) {
            b.point(25 * k - 90, 30 + 9 * k, 100 - 27 * k, 3 - k, k - 2);
        }
        for (int n = 0; n < 9; n++) {
            b.look(n % 3);
        }
        for (int n = 0; n < 6; n++) {
            b.picture(63 - n, -60 - n, 20, 8, 5, 16, 16);
        }
        b.fan(2, 9, 16, 7);
        b.dead(15, true);
        b.cap(9 * 16 * 16 * 16);
        return b;
    }

    private static SoundBoard alone() {
        SoundBoard b = new SoundBoard();
        b.probe(3, -2, 2);
        b.point(0, 30, 10, -1, -1);
        b.dead(0, true);
        b.dead(2, true);
        b.window(2, 2);
        b.cap(0);
        return b;
    }

    /** All that can be seen of a board, and then what it does in a row of calls that change it. */
    static List<Long> seen(SoundBoard b) {
        List<Long> seen = new ArrayList<>();
        counts(b, seen);
        points(b, seen);
        for (int i = 0; i < 16; i++) {
            add(seen, b.delay(i, 7, 90), b.weight(i, -12, 41), b.weight(i, 3, 9));
        }
        heard(b, seen);
        shown(b, seen);
        add(seen, b.cap(1000000), b.window(1, 9), b.tick(1));
        add(seen, b.look(0), b.look(1), b.dead(0, false), b.look(0), b.dead(1, true), b.pace(7, 5));
        counts(b, seen);
        points(b, seen);
        add(seen, b.point(1, 2, 3, 4, 5), b.clear(), b.probe(2, 0, 1), b.delay(1, 90, 40), b.pace(1, 1), b.look(1));
        counts(b, seen);
        return seen;
    }

    private static void add(List<Long> seen, long... answers) {
        for (long answer : answers) {
            seen.add(answer);
        }
    }

    private static void counts(SoundBoard b, List<Long> seen) {
        for (int what = 0; what <= 6; what++) {
            add(seen, b.count(what));
        }
        add(seen, b.digest());
    }

    private static void points(SoundBoard b, List<Long> seen) {
        for (int k = 0; k < 8; k++) {
            add(seen, b.pointAt(k, 0), b.pointAt(k, 1), b.pointAt(k, 2));
        }
    }

    private static void heard(SoundBoard b, List<Long> seen) {
        for (int look = 0; look < 6; look++) {
            add(seen, b.sample(look, 1, 100), b.sum(look, 0, 40), b.mean(1 << look, -10, 50), b.turn(0, look, 0, 40));
        }
    }

    private static void shown(SoundBoard b, List<Long> seen) {
        for (int p = 0; p < 4; p++) {
            add(seen, b.about(p, 0), b.about(p, 1), b.about(p, 2), b.about(p, 3), b.pixel(p, 2, 2));
        }
        for (int a = 0; a < 9; a++) {
            add(seen, b.fanAt(a, 0), b.fanAt(a, 1), b.fanAt(a, 5), b.fanAt(a, 15));
        }
        for (int v = 0; v < 6; v++) {
            add(seen, b.board(3, 6, 8, 0, v), b.board(3, 6, 8, 1, v), b.board(2, 6, 5, 1, v));
        }
    }
}
