/** Promises 7 to 12: tie, sky, ring, letter, tied, undo. */
public final class TiesTest {
    private static final int UNKNOWN = -101, OUTSIDE = -102, STATE = -103, FULL = -104;

    private static ReignLadders twoReigns() {
        ReignLadders x = new ReignLadders();
        x.reign(0, 0, 10, 0, 0);
        x.reign(1, 0, 10, 0, 0);
        return x;
    }

    private static void tiesAsTold() {
        ReignLadders x = twoReigns();
        Due.is("tie", x.tie(0, 99, 1, 1, 20, 9), 0);
        Due.is("sky", x.sky(1, 1, -2000, 2000, 7, 0), 1);
        Due.is("ring", x.ring(0, 99, -2000, 9), 2);
        Due.is("letter", x.letter(1, 1, 0, 99, 0), 3);
        Due.is("tie of no slack", x.tie(1, 3, 0, 4, 0, 0), 4);
        int[][] want = {{0, 0, 99, 1, 1, 20, 9}, {1, 1, 1, -1, -1, -1, 0}, {2, 0, 99, -1, -1, -1, 9},
            {3, 1, 1, 0, 99, -1, 0}, {0, 1, 3, 0, 4, 0, 0}};
        for (int tie = 0; tie < 5; tie++) {
            for (int what = 0; what <= 6; what++) {
                Due.is("tied(" + tie + ", " + what + ")", x.tied(tie, what), want[tie][what]);
            }
        }
        Due.is("tied(5, 7)", x.tied(5, 7), UNKNOWN);
        Due.is("tied(-1, 0)", x.tied(-1, 0), UNKNOWN);
        Due.is("tied(0, 7)", x.tied(0, 7), OUTSIDE);
        Due.is("tied(0, -1)", x.tied(0, -1), OUTSIDE);
    }

    private static void tieRefused() {
        ReignLadders x = twoReigns();
        long before = x.digest();
        int[][] unknown = {{2, 0, 1, 0}, {-1, 0, 1, 0}, {0, 0, 2, 0}, {0, 0, -1, 0}, {1, 0, 1, 0}};
        for (int[] u : unknown) {
            Due.refused("tie of " + u[0] + ", " + u[2], x, before, x.tie(u[0], u[1], u[2], u[3], 99, 99), UNKNOWN);
            Due.refused("letter of " + u[0] + ", " + u[2], x, before, x.letter(u[0], u[1], u[2], u[3], 99), UNKNOWN);
            Due.refused("wish of " + u[0] + ", " + u[2], x, before, x.wish(u[0], u[1], u[2], u[3], 99), UNKNOWN);
        }
        int[][] outside = {{0, 1, 0, 0}, {100, 1, 0, 0}, {1, 0, 0, 0}, {1, 100, 0, 0}};
        for (int[] o : outside) {
            Due.refused("tie at " + o[0] + ", " + o[1], x, before, x.tie(0, o[0], 1, o[1], 0, 0), OUTSIDE);
            Due.refused("letter at " + o[0] + ", " + o[1], x, before, x.letter(0, o[0], 1, o[1], 0), OUTSIDE);
            Due.refused("wish at " + o[0] + ", " + o[1], x, before, x.wish(0, o[0], 1, o[1], 0), OUTSIDE);
        }
        Due.refused("tie, slack 21", x, before, x.tie(0, 1, 1, 1, 21, 0), OUTSIDE);
        Due.refused("tie, slack -1", x, before, x.tie(0, 1, 1, 1, -1, 0), OUTSIDE);
        Due.refused("tie, edition 10", x, before, x.tie(0, 1, 1, 1, 0, 10), OUTSIDE);
        Due.refused("tie, edition -1", x, before, x.tie(0, 1, 1, 1, 0, -1), OUTSIDE);
        Due.refused("letter, edition 10", x, before, x.letter(0, 1, 1, 1, 10), OUTSIDE);
        Due.refused("letter, edition -1", x, before, x.letter(0, 1, 1, 1, -1), OUTSIDE);
        Due.refused("wish, slack 21", x, before, x.wish(0, 1, 1, 1, 21), OUTSIDE);
        Due.refused("wish, slack -1", x, before, x.wish(0, 1, 1, 1, -1), OUTSIDE);
    }

    private static void skyAndRingRefused() {
        ReignLadders x = twoReigns();
        long before = x.digest();
        Due.refused("sky of 2", x, before, x.sky(2, 0, 0, 0, 0, 0), UNKNOWN);
        Due.refused("sky of -1", x, before, x.sky(-1, 0, 0, 0, 0, 0), UNKNOWN);
        Due.refused("ring of 2", x, before, x.ring(2, 0, 0, 0), UNKNOWN);
        Due.refused("ring of -1", x, before, x.ring(-1, 0, 0, 0), UNKNOWN);
        int[][] outside = {{0, 0, 0, 0, 0}, {100, 0, 0, 0, 0}, {1, -2001, 0, 0, 0}, {1, 2001, 0, 0, 0},
            {1, 0, -2001, 0, 0}, {1, 0, 2001, 0, 0}, {1, 0, 0, -2001, 0}, {1, 0, 0, 2001, 0}, {1, 0, 0, 0, -1},
            {1, 0, 0, 0, 10}};
        for (int[] o : outside) {
            Due.refused("sky " + o[0] + " " + o[1] + " " + o[2] + " " + o[3] + " " + o[4], x, before,
                    x.sky(0, o[0], o[1], o[2], o[3], o[4]), OUTSIDE);
        }
        int[][] rings = {{0, 0, 0}, {100, 0, 0}, {1, -2001, 0}, {1, 2001, 0}, {1, 0, -1}, {1, 0, 10}};
        for (int[] o : rings) {
            Due.refused("ring " + o[0] + " " + o[1] + " " + o[2], x, before, x.ring(0, o[0], o[1], o[2]), OUTSIDE);
        }
        Due.is("ring in 2000", x.ring(0, 1, 2000, 0), 0);
    }

    private static void eightTiesTwoSkies() {
        ReignLadders x = twoReigns();
        x.sky(0, 1, 0, 0, 0, 0);
        x.sky(1, 1, 0, 1, 2, 0);
        long two = x.digest();
        Due.refused("a third sky", x, two, x.sky(0, 1, 0, 0, 0, 0), FULL);
        Due.refused("a third sky, OUTSIDE first", x, two, x.sky(0, 0, 0, 0, 0, 0), OUTSIDE);
        Due.is("undo()", x.undo(), 1);
        Due.is("ring", x.ring(0, 1, -5, 0), 1);
        Due.is("a sky again", x.sky(1, 1, 0, 1, 2, 0), 2);
        for (int more = 3; more < 8; more++) {
            Due.is("tie " + more, x.tie(0, 1, 1, 1, 20, 0), more);
        }
        long before = x.digest();
        Due.refused("a ninth tie", x, before, x.tie(0, 1, 1, 1, 0, 0), FULL);
        Due.refused("a ninth letter", x, before, x.letter(0, 1, 1, 1, 0), FULL);
        Due.refused("a ninth ring", x, before, x.ring(0, 1, 1, 0), FULL);
        Due.refused("a ninth sky", x, before, x.sky(0, 1, 1, 1, 1, 0), FULL);
        ReignLadders y = twoReigns();
        for (int more = 0; more < 8; more++) {
            y.ring(0, 1, 0, 0);
        }
        Due.refused("a first sky as the ninth", y, y.digest(), y.sky(0, 1, 1, 1, 1, 0), FULL);
    }

    private static void skiesUndone() {
        ReignLadders x = twoReigns();
        x.sky(0, 1, 0, 0, 0, 0);
        x.sky(1, 1, 0, 1, 2, 0);
        x.ring(1, 1, 0, 0);
        x.undo();
        Due.is("a ring that is gone frees no sky", x.sky(0, 1, 0, 0, 0, 0), FULL);
        x.undo();
        Due.is("a sky that is gone frees one", x.sky(0, 1, 0, 0, 0, 0), 1);
        Due.is("and no more", x.sky(0, 1, 0, 0, 0, 0), FULL);
        x.undo();
        x.undo();
        Due.is("both are gone", x.sky(0, 1, 0, 0, 0, 0), 0);
        Due.is("both are told again", x.sky(0, 1, 0, 0, 0, 0), 1);
        Due.is("a third is not", x.sky(0, 1, 0, 0, 0, 0), FULL);
    }

    private static void undone() {
        ReignLadders x = twoReigns();
        Due.refused("undo() of none", x, x.digest(), x.undo(), STATE);
        long none = x.digest();
        x.tie(0, 1, 1, 5, 0, 0);
        long one = x.digest();
        x.sky(0, 1, 50, 60, 70, 0);
        Due.is("undo() of two", x.undo(), 1);
        Due.is("digest() of one", x.digest(), one);
        Due.is("tied(1, 0)", x.tied(1, 0), UNKNOWN);
        Due.is("span without the sky", x.span(0, 9, 0, 1), 2000);
        Due.is("undo() of one", x.undo(), 0);
        Due.is("digest() of none", x.digest(), none);
        Due.is("undo() of none", x.undo(), STATE);
    }

    public static void main(String[] args) {
        tiesAsTold();
        tieRefused();
        skyAndRingRefused();
        eightTiesTwoSkies();
        skiesUndone();
        undone();
        Due.end();
    }
}
