/** Promises 11 to 14: window, weight, sum, mean. */
public final class SumTest {
    private static final int NO_VALUE = -1000000000;
    private static final int[][] NO_PLACES = {{-2001, 0}, {2001, 0}, {0, -1}, {0, 4001},
        {Integer.MIN_VALUE, 0}, {Integer.MAX_VALUE, 0}, {0, Integer.MIN_VALUE}, {0, Integer.MAX_VALUE}};

    public static void main(String[] args) {
        promise11Window();
        promise12Weight();
        promise13Sum();
        promise13Beyond();
        promise14Mean();
        promise14Joined();
        promise14Bad();
        Check.end("SumTest");
    }

    /** Elements at 0, 3, 6 and a point of strength 10 at 0, 4: delays 4, 5, 7, d 8, 9, 11. */
    private static SoundBoard three(int strength) {
        SoundBoard b = new SoundBoard();
        b.probe(3, 0, 3);
        b.point(0, 4, strength, 0, 0);
        b.look(0);
        return b;
    }

    private static void promise11Window() {
        SoundBoard b = new SoundBoard();
        Check.due("was 0", b.window(2, 9), 0);
        Check.due("was 2", b.window(1, 1), 2);
        Check.due("was 1", b.window(0, 5), 1);
        b.window(2, 3);
        int[][] bad = {{-1, 1}, {3, 1}, {0, 0}, {1, 0}, {1, 10}, {0, -1}, {Integer.MIN_VALUE, 1}, {Integer.MAX_VALUE, 1},
            {1, Integer.MIN_VALUE}, {1, Integer.MAX_VALUE}};
        for (int[] w : bad) {
            Check.due("bad window", b.window(w[0], w[1]), -2);
        }
        Check.due("bad ones leave F", b.weight(0, -10, 12), 5);
        Check.due("bad ones leave the window", b.window(0, 1), 2);
    }

    private static void promise12Weight() {
        SoundBoard b = new SoundBoard();
        b.probe(2, 0, 10);
        Check.due("window 0", b.weight(0, 2000, 0), 1);
        b.window(1, 3);
        Check.due("11 by 3 reaches 3", b.weight(0, 3, 11), 1);
        Check.due("to the left too", b.weight(0, -3, 11), 1);
        Check.due("not 4", b.weight(0, 4, 11), 0);
        Check.due("nor -4", b.weight(0, -4, 11), 0);
        Check.due("of the other element", b.weight(1, 13, 11), 1);
        Check.due("of the other element", b.weight(1, 14, 11), 0);
        Check.due("z 0 reaches itself", b.weight(0, 0, 0), 1);
        Check.due("z 0 reaches nothing else", b.weight(0, 1, 0), 0);
        b.window(2, 3);
        Check.due("v and 1", b.weight(0, 0, 11), 4);
        Check.due("v less 2 and 1", b.weight(0, 2, 11), 2);
        Check.due("e is v", b.weight(0, -3, 11), 1);
        Check.due("e above v", b.weight(0, 4, 11), 0);
        Check.due("z 0", b.weight(1, 10, 0), 1);
        b.window(2, 1);
        Check.due("the greatest", b.weight(0, 0, 4000), 4001);
        b.window(2, 9);
        Check.due("F 9", b.weight(0, 0, 4000), 445);
        b.dead(0, true);
        for (int w = 0; w <= 2; w++) {
            b.window(w, 1);
            Check.due("a dead one", b.weight(0, 0, 4000), 0);
        }
        Check.due("an alive one", b.weight(1, 10, 4000), 4001);
        Check.due("edges", b.weight(1, -2000, 4000), 1991);
        Check.due("edges", b.weight(1, 2000, 4000), 2011);
        int[] none = {-1, 2, 16, Integer.MIN_VALUE, Integer.MAX_VALUE};
        for (int i : none) {
            Check.due("no such element", b.weight(i, 0, 0), -2);
        }
        for (int[] place : NO_PLACES) {
            Check.due("no such place", b.weight(0, place[0], place[1]), -2);
        }
    }

    private static void promise13Sum() {
        SoundBoard b = three(10);
        Check.due("at the point", b.sum(0, 0, 4), 60);
        Check.due("nearer", b.sum(0, 0, 3), 10);
        Check.due("farther", b.sum(0, 0, 5), 0);
        Check.due("aside", b.sum(0, 3, 4), 30);
        b.window(1, 2);
        Check.due("one element", b.sum(0, 0, 4), 20);
        b.window(1, 1);
        Check.due("two elements", b.sum(0, 0, 4), 40);
        b.window(2, 1);
        Check.due("weights 5 and 2", b.sum(0, 0, 4), 140);
        Check.due("weights 2, 5, 2", b.sum(0, 3, 4), 120);
        b.window(0, 1);
        b.dead(0, true);
        Check.due("the sender dies later", b.sum(0, 0, 4), 40);
        b.dead(1, true);
        Check.due("one is left", b.sum(0, 0, 4), 20);
        b.dead(0, false);
        b.clear();
        b.look(2);
        Check.due("of an empty scene", b.sum(1, 0, 4), 0);
        Check.due("the first one stays", b.sum(0, 0, 4), 40);
        int[] none = {-1, 2, 6, Integer.MIN_VALUE, Integer.MAX_VALUE};
        for (int look : none) {
            Check.due("no such look", b.sum(look, 0, 4), NO_VALUE);
        }
        for (int[] place : NO_PLACES) {
            Check.due("no such place", b.sum(0, place[0], place[1]), NO_VALUE);
        }
        SoundBoard c = new SoundBoard();
        c.probe(3, 0, 3);
        c.point(0, 4, 10, 0, 0);
        c.look(2);
        Check.due("the sender's own way counts", c.sum(0, 0, 4), 60);
        Check.due("from the other side", c.sum(0, 6, 4), 20);
    }

    private static void promise13Beyond() {
        SoundBoard b = new SoundBoard();
        b.probe(2, 0, 20);
        b.point(0, 199, 100, 0, 0);
        b.look(0);
        Check.due("the last samples", b.sum(0, 0, 199), 200 + 200);
        Check.due("beyond the row", b.sum(0, 0, 200), 0);
        Check.due("far beyond the row", b.sum(0, 2000, 4000), 0);
        b.pace(1, 1);
        b.probe(2, 0, 20);
        b.pace(1, 1000);
        b.clear();
        b.point(0, 0, 100, 0, 0);
        b.look(0);
        Check.due("the slowest, here", b.sum(0, 0, 0), 200);
        Check.due("the slowest, far", b.sum(0, 2000, 4000), 0);
    }

    private static void promise14Mean() {
        SoundBoard b = three(10);
        Check.due("at the point", b.mean(1, 0, 4), 20);
        Check.due("10 by 3, cut", b.mean(1, 0, 3), 3);
        Check.due("30 by 3", b.mean(1, 3, 4), 10);
        b.window(2, 1);
        Check.due("140 by 7", b.mean(1, 0, 4), 20);
        Check.due("120 by 9", b.mean(1, 3, 4), 13);
        b.window(1, 9);
        Check.due("no weights", b.mean(1, 1, 0), 0);
        b.window(0, 1);
        b.dead(0, true);
        Check.due("dead ones are not weighed", b.mean(1, 0, 4), 20);
        SoundBoard c = three(-10);
        Check.due("cut toward 0", c.mean(1, 0, 3), -3);
        SoundBoard d = three(-1);
        Check.due("cut to 0", d.mean(1, 3, 3), 0);
    }

    private static void promise14Joined() {
        SoundBoard b = three(10);
        b.clear();
        b.look(1);
        b.point(0, 4, -25, 0, 0);
        b.look(2);
        Check.due("first", b.mean(1, 0, 4), 20);
        Check.due("second", b.mean(2, 0, 4), 0);
        Check.due("third", b.mean(4, 0, 4), -50);
        Check.due("first and second", b.mean(3, 0, 4), 10);
        Check.due("first and third", b.mean(5, 0, 4), -15);
        Check.due("second and third", b.mean(6, 0, 4), -25);
        Check.due("all", b.mean(7, 0, 4), -10);
        Check.due("each sum alone is cut", b.mean(1, 0, 3), 3);
        b.window(2, 1);
        Check.due("weights of all together", b.mean(5, 0, 4), -15);
        for (int n = 0; n < 3; n++) {
            b.look(0);
        }
        Check.due("six looks", b.mean(63, 0, 4), (20 - 50 * 4) / 6);
        b.look(0);
        Check.due("the oldest is another one now", b.mean(1, 0, 4), 0);
        SoundBoard c = three(10);
        c.clear();
        c.point(0, 4, -5, 0, 0);
        c.look(0);
        Check.due("-5 by 3, cut", c.mean(2, 0, 3), -1);
        Check.due("10 less 5 by 6: cut once, at the end", c.mean(3, 0, 3), 0);
    }

    private static void promise14Bad() {
        SoundBoard b = new SoundBoard();
        Check.due("there is none", b.mean(1, 0, 0), NO_VALUE);
        b.look(0);
        b.look(0);
        int[] bad = {0, -1, 4, 5, 7, 64, 1 << 30, Integer.MIN_VALUE, Integer.MIN_VALUE + 1, Integer.MAX_VALUE};
        for (int looks : bad) {
            Check.due("bad looks " + looks, b.mean(looks, 0, 0), NO_VALUE);
        }
        for (int[] place : NO_PLACES) {
            Check.due("no such place", b.mean(3, place[0], place[1]), NO_VALUE);
        }
        Check.due("both", b.mean(3, 0, 0), 0);
        for (int n = 0; n < 5; n++) {
            b.look(0);
        }
        Check.due("all six", b.mean(63, 0, 0), 0);
        Check.due("no seventh", b.mean(64, 0, 0), NO_VALUE);
    }
}
