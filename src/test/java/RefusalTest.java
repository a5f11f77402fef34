import java.util.ArrayList;
import java.util.HashMap;
import java.util.List;
import java.util.Map;

/**
 * Promises 2 to 26: each number of each call at both its ends, the last that is allowed and the first that is
 * refused; what a refused call answers; that it changes nothing; and which refusal is the first.
 */
public final class RefusalTest {
    private static final int NO_VALUE = -1000000000;
    private static final int BAD = -2;
    private static final int NO = -3;
    private static final int FULL = -4;
    private static final int HOT = -5;
    private static final Map<String, List<Long>> TWINS = new HashMap<>();

    private interface Call {
        long on(SoundBoard b, int... a);
    }

    /** The ends of a number that is told, and one within them that fits the others. */
    private record Ends(int least, int most, int fine) {
    }

    private record Told(String call, boolean taken, long refusal, Call made, Ends... ends) {
    }

    public static void main(String[] args) {
        theStatesAreAsTheySay();
        for (Boards.State state : Boards.ALL) {
            for (Told told : told(state.sizes())) {
                bothEnds(state, told);
            }
        }
        promise2BeyondOnTheRight();
        promise3No();
        promise4No();
        promise6Full();
        promise9No();
        promise9Hot();
        promise14To15NoSuchLooks();
        promise16And18NoSuchPicture();
        promise18No();
        promise19No();
        promise21And22None();
        theFirstOfThem();
        Check.end("RefusalTest");
    }

    private static void theStatesAreAsTheySay() {
        for (Boards.State state : Boards.ALL) {
            SoundBoard b = state.made().get();
            Boards.Sizes has = state.sizes();
            Check.due(state.name() + ": elements", b.count(0), has.elements());
            Check.due(state.name() + ": points", b.count(2), has.points());
            Check.due(state.name() + ": looks", b.count(3), has.looks());
            Check.due(state.name() + ": pictures", b.count(4), has.pictures());
            Check.due(state.name() + ": w", b.about(0, 0), has.pictures() == 0 ? BAD : has.w());
            Check.due(state.name() + ": h", b.about(0, 1), has.pictures() == 0 ? BAD : has.h());
            int heard = 0;
            for (int n = 0; n < 144; n++) {
                heard += b.fanAt(n % 9, n / 9) > 0 ? 1 : 0;
            }
            Check.holds(state.name() + ": its fan is heard", heard > 0 == has.lines() > 0);
            Check.holds(state.name() + ": its picture shows something", b.about(0, 2) > 0 == has.pictures() > 0);
        }
        Check.due("full: the heat", Boards.FULL.made().get().count(5), 9 * 16 * 16 * 16);
        Check.due("alone: one is alive", Boards.ALONE.made().get().count(1), 1);
    }

    private static Ends of(int least, int most, int fine) {
        return new Ends(least, most, fine);
    }

    private static Ends of(int least, int most) {
        return of(least, most, least);
    }

    private static Ends anyX() {
        return of(-2000, 2000, 0);
    }

    private static Ends anyZ() {
        return of(0, 4000, 40);
    }

    /** All calls with numbers; taken: with all numbers within their ends nothing else refuses it. */
    private static List<Told> told(Boards.Sizes has) {
        List<Told> all = new ArrayList<>();
        Ends element = of(0, has.elements() - 1);
        Ends look = of(0, has.looks() - 1);
        boolean silent = has.looks() == 0;
        all.add(new Told("promise 2: probe", true, BAD, (b, a) -> b.probe(a[0], a[1], a[2]),
            of(2, 16), of(-2000, 1999, 0), of(1, 200)));
        all.add(new Told("promise 3: pace", silent, BAD, (b, a) -> b.pace(a[0], a[1]), of(1, 1000), of(1, 1000)));
        all.add(new Told("promise 4: dead, true", false, BAD, (b, a) -> b.dead(a[0], true), element));
        all.add(new Told("promise 4: dead, false", false, BAD, (b, a) -> b.dead(a[0], false), element));
        all.add(new Told("promise 5: delay", true, BAD, (b, a) -> b.delay(a[0], a[1], a[2]), element, anyX(), anyZ()));
        all.add(new Told("promise 6: point", has.points() < 8, BAD, (b, a) -> b.point(a[0], a[1], a[2], a[3], a[4]),
            anyX(), anyZ(), of(-100, 100, 0), of(-200, 200, 0), of(-200, 200, 0)));
        all.add(new Told("promise 8: pointAt", true, -5000, (b, a) -> b.pointAt(a[0], a[1]),
            of(0, has.points() - 1), of(0, 2)));
        all.add(new Told("promise 9: look", false, BAD, (b, a) -> b.look(a[0]), element));
        all.add(new Told("promise 10: sample", true, -1000000, (b, a) -> b.sample(a[0], a[1], a[2]),
            look, element, of(0, 399)));
        all.add(new Told("promise 11: window", true, BAD, (b, a) -> b.window(a[0], a[1]), of(0, 2), of(1, 9)));
        all.add(new Told("promise 12: weight", true, BAD, (b, a) -> b.weight(a[0], a[1], a[2]), element, anyX(), anyZ()));
        all.add(new Told("promise 13: sum", true, NO_VALUE, (b, a) -> b.sum(a[0], a[1], a[2]), look, anyX(), anyZ()));
        Ends bits = of(1, (1 << has.looks()) - 1);
        all.add(new Told("promise 14: mean", true, NO_VALUE, (b, a) -> b.mean(a[0], a[1], a[2]), bits, anyX(), anyZ()));
        all.add(new Told("promise 15: picture", true, BAD,
            (b, a) -> b.picture(a[0], a[1], a[2], a[3], a[4], a[5], a[6]),
            bits, anyX(), anyZ(), of(1, 500), of(1, 500), of(1, 16), of(1, 16)));
        toldOfPictures(all, has, look);
        toldOfTheRest(all, look);
        return all;
    }

    private static void toldOfPictures(List<Told> all, Boards.Sizes has, Ends look) {
        Ends picture = of(0, has.pictures() - 1);
        all.add(new Told("promise 16: pixel", true, NO_VALUE, (b, a) -> b.pixel(a[0], a[1], a[2]),
            picture, of(0, has.w() - 1), of(0, has.h() - 1)));
        all.add(new Told("promise 17: about", true, BAD, (b, a) -> b.about(a[0], a[1]), picture, of(0, 3)));
        all.add(new Told("promise 18: differ", false, BAD, (b, a) -> b.differ(a[0], a[1]), picture, picture));
        all.add(new Told("promise 19: turn", false, -100, (b, a) -> b.turn(a[0], a[1], a[2], a[3]),
            look, look, anyX(), anyZ()));
        all.add(new Told("promise 21: fanAt", true, NO_VALUE, (b, a) -> b.fanAt(a[0], a[1]),
            of(0, has.lines() - 1), of(0, has.means() - 1)));
        if (has.lines() > 0) {
            all.add(new Told("promise 22: board", true, NO_VALUE, (b, a) -> b.board(a[0], a[1], a[2], a[3], a[4]),
                of(2, 12), of(2, 12), of(1, 500), of(0, 1), of(0, 1)));
            all.add(new Told("promise 22: board of 12 by 12", true, NO_VALUE, (b, a) -> b.board(12, 12, 500, a[0], a[1]),
                of(0, 11), of(0, 11)));
        }
    }

    private static void toldOfTheRest(List<Told> all, Ends look) {
        all.add(new Told("promise 20: fan", true, BAD, (b, a) -> b.fan(a[0], a[1], a[2], a[3]),
            look, of(2, 9), of(2, 16), of(1, 250)));
        all.add(new Told("promise 23: caliper", true, BAD, (b, a) -> b.caliper(a[0], a[1], a[2], a[3]),
            anyX(), anyZ(), anyX(), anyZ()));
        all.add(new Told("promise 24: cap", true, BAD, (b, a) -> b.cap(a[0]), of(0, 1000000)));
        all.add(new Told("promise 25: tick", true, BAD, (b, a) -> b.tick(a[0]), of(1, 1000)));
        all.add(new Told("promise 26: count", true, BAD, (b, a) -> b.count(a[0]), of(0, 6)));
    }

    /** Each number by itself at its ends and beyond them, all others being fine. */
    private static void bothEnds(Boards.State state, Told told) {
        boolean empty = false;
        for (Ends ends : told.ends()) {
            empty |= ends.most() < ends.least();
        }
        for (int place = 0; place < told.ends().length; place++) {
            Ends ends = told.ends()[place];
            if (empty) {
                refused(state, told.call() + " where there is none", told.refusal(), with(told, place, ends.fine()));
            } else if (told.taken()) {
                taken(state, told, place, ends.least());
                taken(state, told, place, ends.most());
            }
            int[] beyond = {ends.least() - 1, ends.most() + 1, Integer.MIN_VALUE, Integer.MAX_VALUE};
            for (int value : beyond) {
                String what = told.call() + ", number " + place + " is " + value;
                refused(state, what, told.refusal(), with(told, place, value));
            }
        }
    }

    private static int[] numbers(Told told, int place, int value) {
        int[] a = new int[told.ends().length];
        for (int n = 0; n < a.length; n++) {
            a[n] = n == place ? value : told.ends()[n].fine();
        }
        return a;
    }

    private static Call with(Told told, int place, int value) {
        return (b, none) -> told.made().on(b, numbers(told, place, value));
    }

    private static void taken(Boards.State state, Told told, int place, int value) {
        long got = told.made().on(state.made().get(), numbers(told, place, value));
        boolean isRefused = got == told.refusal() || told.refusal() == BAD && got <= NO && got >= HOT;
        Check.holds(told.call() + ", number " + place + " is " + value + ", is taken on a board that is " + state.name(),
            !isRefused);
    }

    /** Asks one of two twins alone: all that can be seen of both must be the same after it. */
    private static void refused(Boards.State state, String what, long answer, Call call) {
        SoundBoard b = state.made().get();
        Check.due(what + ", on a board that is " + state.name(), call.on(b), answer);
        List<Long> twin = TWINS.computeIfAbsent(state.name(), name -> Boards.seen(state.made().get()));
        Check.holds(what + " changes nothing of a board that is " + state.name(), Boards.seen(b).equals(twin));
    }

    private static void promise2BeyondOnTheRight() {
        int[][] beyond = {{2, 2000, 1}, {2, 1801, 200}, {3, 1801, 100}, {16, 1986, 1}, {16, -999, 200}};
        for (Boards.State state : Boards.ALL) {
            for (int[] a : beyond) {
                refused(state, "promise 2: an x beyond", BAD, (b, none) -> b.probe(a[0], a[1], a[2]));
                Check.due("promise 2: the last x is 2000", state.made().get().probe(a[0], a[1] - 1, a[2]), 1);
            }
        }
    }

    private static void promise3No() {
        refused(Boards.LIVED, "promise 3: there are looks", NO, (b, a) -> b.pace(1, 1));
        refused(Boards.FULL, "promise 3: there are looks", NO, (b, a) -> b.pace(1000, 1000));
        refused(Boards.LIVED, "promise 3: the same pace, but there are looks", NO, (b, a) -> b.pace(5, 2));
        Check.due("promise 3: there are none", Boards.ALONE.made().get().pace(5, 6), 1);
    }

    private static void promise4No() {
        refused(Boards.LIVED, "promise 4: it is dead", NO, (b, a) -> b.dead(2, true));
        refused(Boards.LIVED, "promise 4: it is alive", NO, (b, a) -> b.dead(3, false));
        refused(Boards.NEW, "promise 4: it is alive", NO, (b, a) -> b.dead(0, false));
        refused(Boards.ALONE, "promise 4: the last one that is alive", NO, (b, a) -> b.dead(1, true));
        refused(Boards.ALONE, "promise 4: the last one is alive", NO, (b, a) -> b.dead(1, false));
        refused(Boards.ALONE, "promise 4: it is dead beside the last one", NO, (b, a) -> b.dead(0, true));
    }

    private static void promise6Full() {
        refused(Boards.FULL, "promise 6: 8 points", FULL, (b, a) -> b.point(0, 0, 0, 0, 0));
        refused(Boards.FULL, "promise 6: 8 points", FULL, (b, a) -> b.point(-2000, 4000, -100, 200, -200));
    }

    private static void promise9No() {
        refused(Boards.LIVED, "promise 9: that element is dead", NO, (b, a) -> b.look(2));
        refused(Boards.ALONE, "promise 9: that element is dead", NO, (b, a) -> b.look(0));
    }

    private static void promise9Hot() {
        refused(Boards.FULL, "promise 9: heat would be above the cap", HOT, (b, a) -> b.look(0));
        refused(Boards.ALONE, "promise 9: heat would be 1, the cap is 0", HOT, (b, a) -> b.look(1));
    }

    private static void promise14To15NoSuchLooks() {
        int[] none = {0, -1, -3, 4, 5, 7, 1 << 30, Integer.MIN_VALUE + 3};
        for (int bits : none) {
            refused(Boards.LIVED, "promise 14: looks " + bits, NO_VALUE, (b, a) -> b.mean(bits, 0, 40));
            refused(Boards.LIVED, "promise 15: looks " + bits, BAD, (b, a) -> b.picture(bits, 0, 40, 1, 1, 2, 2));
        }
        refused(Boards.FULL, "promise 14: a seventh look", NO_VALUE, (b, a) -> b.mean(64, 0, 40));
        refused(Boards.FULL, "promise 14: a seventh look too", NO_VALUE, (b, a) -> b.mean(127, 0, 40));
        refused(Boards.FULL, "promise 15: a seventh look", BAD, (b, a) -> b.picture(64, 0, 40, 1, 1, 2, 2));
        Check.holds("promise 14: all six", Boards.FULL.made().get().mean(63, 0, 40) != NO_VALUE);
    }

    private static void promise16And18NoSuchPicture() {
        // Picture 1 is 3 by 5, picture 0 is 5 by 3.
        refused(Boards.LIVED, "promise 16: beyond w of picture 1", NO_VALUE, (b, a) -> b.pixel(1, 3, 0));
        refused(Boards.LIVED, "promise 16: beyond h of picture 1", NO_VALUE, (b, a) -> b.pixel(1, 0, 5));
        Check.holds("promise 16: the last of picture 1", Boards.LIVED.made().get().pixel(1, 2, 4) != NO_VALUE);
        refused(Boards.LIVED, "promise 18: both are none", BAD, (b, a) -> b.differ(2, 2));
        refused(Boards.NEW, "promise 18: none at all", BAD, (b, a) -> b.differ(0, 0));
    }

    private static void promise18No() {
        refused(Boards.LIVED, "promise 18: w and h differ", NO, (b, a) -> b.differ(0, 1));
        refused(Boards.LIVED, "promise 18: h and w differ", NO, (b, a) -> b.differ(1, 0));
        int[][] shapes = {{4, 3}, {6, 3}, {5, 2}, {5, 4}, {3, 5}, {15, 1}};
        for (int[] shape : shapes) {
            Boards.State state = new Boards.State("lived, with " + shape[0] + " by " + shape[1], Boards.LIVED.sizes(), () -> {
                SoundBoard b = Boards.LIVED.made().get();
                b.picture(1, 0, 40, 1, 1, shape[0], shape[1]);
                return b;
            });
            refused(state, "promise 18: w or h differ", NO, (b, a) -> b.differ(0, 2));
        }
    }

    private static void promise19No() {
        refused(Boards.LIVED, "promise 19: their senders differ", -101, (b, a) -> b.turn(0, 1, 0, 40));
        refused(Boards.LIVED, "promise 19: their senders differ", -101, (b, a) -> b.turn(1, 0, 0, 40));
        refused(Boards.FULL, "promise 19: their senders differ", -101, (b, a) -> b.turn(5, 0, 0, 40));
        for (int look = 0; look < 6; look++) {
            int got = Boards.FULL.made().get().turn(look, (look + 3) % 6, 0, 40);
            Check.holds("promise 19: looks " + look + " and three on have one sender", got >= -8 && got <= 8);
        }
    }

    private static void promise21And22None() {
        for (Boards.State state : List.of(Boards.NEW, Boards.ALONE)) {
            refused(state, "promise 21: no fan", NO_VALUE, (b, a) -> b.fanAt(0, 0));
            refused(state, "promise 22: no fan", NO_VALUE, (b, a) -> b.board(2, 2, 1, 0, 0));
            refused(state, "promise 22: no fan", NO_VALUE, (b, a) -> b.board(12, 12, 500, 11, 11));
        }
        // The square must lie on the board that is asked for, not on the greatest one.
        int[][] beyond = {{3, 5, 3, 0}, {5, 3, 0, 3}, {2, 12, 2, 0}, {12, 2, 0, 2}, {11, 11, 11, 0}, {11, 11, 0, 11}};
        for (int[] q : beyond) {
            refused(Boards.FULL, "promise 22: beyond the board", NO_VALUE, (b, a) -> b.board(q[0], q[1], 7, q[2], q[3]));
        }
    }

    /** BAD before NO, NO before FULL, FULL before HOT: each two that can fit one call. */
    private static void theFirstOfThem() {
        refused(Boards.LIVED, "promise 3: BAD before NO", BAD, (b, a) -> b.pace(0, 1));
        refused(Boards.LIVED, "promise 3: BAD before NO", BAD, (b, a) -> b.pace(1, 1001));
        refused(Boards.ALONE, "promise 4: BAD before NO", BAD, (b, a) -> b.dead(3, true));
        refused(Boards.FULL, "promise 6: BAD before FULL", BAD, (b, a) -> b.point(2001, 0, 0, 0, 0));
        refused(Boards.FULL, "promise 6: BAD before FULL", BAD, (b, a) -> b.point(0, 0, 0, 0, -201));
        refused(Boards.FULL, "promise 9: BAD before HOT", BAD, (b, a) -> b.look(16));
        refused(Boards.ALONE, "promise 9: BAD before HOT", BAD, (b, a) -> b.look(-1));
        refused(Boards.FULL, "promise 9: NO before HOT", NO, (b, a) -> b.look(15));
        refused(Boards.ALONE, "promise 9: NO before HOT", NO, (b, a) -> b.look(2));
        refused(Boards.LIVED, "promise 18: BAD before NO", BAD, (b, a) -> b.differ(0, 2));
        refused(Boards.LIVED, "promise 19: BAD before NO", -100, (b, a) -> b.turn(0, 1, 2001, 0));
        refused(Boards.LIVED, "promise 19: BAD before NO", -100, (b, a) -> b.turn(1, 0, 0, -1));
    }
}
