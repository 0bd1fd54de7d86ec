/** Promises 1 to 6: a new object, reign, about, as, lasts, number. */
public final class ListsTest {
    private static final int UNKNOWN = -101, OUTSIDE = -102, STATE = -103, FULL = -104;

    private static void aNewObject() {
        ReignLadders x = new ReignLadders();
        for (int what = 0; what <= 6; what++) {
            Due.is("new: count(" + what + ")", x.count(what), 0);
        }
        Due.is("new: about(0, 0)", x.about(0, 0), UNKNOWN);
        Due.is("new: tied(0, 0)", x.tied(0, 0), UNKNOWN);
        Due.is("new: fault()", x.fault(), 0);
        Due.is("new: can(0, 9)", x.can(0, 9), 1);
        Due.is("new: open(1, 0)", x.open(1, 0), 0);
        Due.is("new: best(1, 0)", x.best(1, 0), -1);
    }

    private static void reignsAreNumberedAsTold() {
        ReignLadders x = new ReignLadders();
        Due.is("first of land 4", x.reign(4, 0, 60, 60, 9), 0);
        Due.is("first of land 0", x.reign(0, 5, 1, 0, 0), 1);
        Due.is("BESIDE with m = n", x.reign(0, 1, 7, 7, 0), 2);
        Due.is("same edition as ahead", x.reign(4, 6, 1, 60, 9), 3);
        int[][] want = {{4, 0, 60, 60, 9, -1}, {0, 5, 1, 0, 0, -1}, {0, 1, 7, 7, 0, 1}, {4, 6, 1, 60, 9, 0}};
        for (int reign = 0; reign < 4; reign++) {
            for (int what = 0; what <= 5; what++) {
                Due.is("about(" + reign + ", " + what + ")", x.about(reign, what), want[reign][what]);
            }
        }
        Due.is("about a reign that is none", x.about(4, 9), UNKNOWN);
        Due.is("about(-1, 0)", x.about(-1, 0), UNKNOWN);
        Due.is("about(0, 6)", x.about(0, 6), OUTSIDE);
        Due.is("about(0, -1)", x.about(0, -1), OUTSIDE);
    }

    private static void reignsThatAreRefused() {
        ReignLadders x = new ReignLadders();
        x.reign(0, 0, 10, 0, 5);
        long before = x.digest();
        int[][] outside = {{-1, 0, 1, 0, 9}, {5, 0, 1, 0, 9}, {0, -1, 1, 0, 9}, {0, 7, 1, 0, 9}, {0, 0, 0, 0, 9},
            {0, 0, 61, 0, 9}, {0, 0, 1, -1, 9}, {0, 0, 1, 61, 9}, {0, 0, 1, 0, -1}, {0, 0, 1, 0, 10}, {0, 0, 1, 0, 4},
            {0, 1, 5, 6, 9}, {1, 1, 5, 6, 9}};
        for (int[] o : outside) {
            Due.refused("reign " + o[0] + " " + o[1] + " " + o[2] + " " + o[3] + " " + o[4], x, before,
                    x.reign(o[0], o[1], o[2], o[3], o[4]), OUTSIDE);
        }
        Due.refused("BESIDE as the first", x, before, x.reign(1, 1, 5, 5, 0), STATE);
        Due.is("m above n of others", x.reign(0, 0, 1, 60, 5), 1);
    }

    private static void reignsInAll() {
        ReignLadders x = new ReignLadders();
        x.reign(0, 3, 5, 1, 0);
        x.reign(0, 6, 5, 1, 0);
        x.reign(1, 6, 5, 1, 0);
        Due.refused("a fourth MISREAD", x, x.digest(), x.reign(1, 3, 5, 1, 0), FULL);
        Due.refused("a fourth DOUBLED", x, x.digest(), x.reign(2, 6, 5, 1, 0), FULL);
        for (int more = 3; more < 10; more++) {
            Due.is("reign " + more, x.reign(more % 5, 0, 5, 1, 0), more);
        }
        long before = x.digest();
        Due.refused("an eleventh", x, before, x.reign(0, 0, 5, 1, 0), FULL);
        Due.refused("an eleventh, OUTSIDE first", x, before, x.reign(0, 0, 0, 1, 0), OUTSIDE);
        ReignLadders y = new ReignLadders();
        for (int more = 0; more < 10; more++) {
            y.reign(0, 0, 5, 1, 0);
        }
        Due.refused("STATE ahead of FULL", y, y.digest(), y.reign(1, 1, 5, 1, 0), STATE);
    }

    private static void reignsTakenAsKinds() {
        ReignLadders x = new ReignLadders();
        for (int kind = 0; kind <= 6; kind++) {
            x.reign(0, kind == 0 ? 6 : kind == 6 ? 0 : kind, 20, 3, 0);
        }
        for (int reign = 0; reign <= 6; reign++) {
            int own = x.about(reign, 1);
            for (int kind = 0; kind <= 6; kind++) {
                boolean is = kind == 0 || kind == own || own == 6 && kind == 3;
                Due.is("as(" + reign + ", " + kind + ")", x.as(reign, kind), is ? reign : -1);
            }
        }
        Due.is("as(7, 9)", x.as(7, 9), UNKNOWN);
        Due.is("as(-1, 0)", x.as(-1, 0), UNKNOWN);
        Due.is("as(0, 7)", x.as(0, 7), OUTSIDE);
        Due.is("as(0, -1)", x.as(0, -1), OUTSIDE);
    }

    /** {kind, n, m, then least, greatest and how many by COUNT 0, by COUNT 1}. */
    private static final int[][] LENGTHS = {
        {0, 1, 60, 1, 1, 1, 0, 0, 1}, {0, 60, 0, 60, 60, 1, 59, 59, 1}, {1, 9, 4, 9, 9, 1, 8, 8, 1},
        {2, 1, 30, 0, 1, 2, 0, 0, 1}, {2, 12, 0, 0, 12, 13, 0, 11, 12}, {3, 21, 12, 12, 21, 2, 11, 20, 2},
        {3, 5, 9, 5, 9, 2, 4, 8, 2}, {3, 4, 4, 4, 4, 1, 3, 3, 1}, {3, 1, 0, 0, 1, 2, 0, 0, 1},
        {3, 8, 0, 0, 8, 2, 0, 7, 2}, {4, 7, 50, 7, 7, 1, 6, 6, 1}, {5, 3, 9, 1, 60, 60, 1, 60, 60},
        {6, 8, 4, 0, 8, 2, 0, 7, 2}, {6, 1, 9, 0, 1, 2, 0, 0, 1}};

    private static void lengths() {
        for (int[] w : LENGTHS) {
            ReignLadders x = new ReignLadders();
            x.reign(0, 0, 1, 0, 0);
            x.reign(0, w[0], w[1], w[2], 0);
            for (int count = 0; count <= 1; count++) {
                for (int which = 0; which <= 2; which++) {
                    Due.is("kind " + w[0] + " n " + w[1] + " m " + w[2] + ": lasts(1, " + count + ", " + which + ")",
                            x.lasts(1, count, which), w[3 + 3 * count + which]);
                }
            }
        }
        ReignLadders x = new ReignLadders();
        x.reign(0, 0, 1, 0, 0);
        Due.is("lasts(1, 5, 5)", x.lasts(1, 5, 5), UNKNOWN);
        Due.is("lasts(-1, 0, 0)", x.lasts(-1, 0, 0), UNKNOWN);
        Due.is("lasts(0, 2, 0)", x.lasts(0, 2, 0), OUTSIDE);
        Due.is("lasts(0, -1, 0)", x.lasts(0, -1, 0), OUTSIDE);
        Due.is("lasts(0, 0, 3)", x.lasts(0, 0, 3), OUTSIDE);
        Due.is("lasts(0, 0, -1)", x.lasts(0, 0, -1), OUTSIDE);
    }

    private static void numbers() {
        ReignLadders x = new ReignLadders();
        x.reign(0, 0, 10, 30, 0);
        x.reign(0, 1, 10, 4, 0);
        Due.is("number(0, 25)", x.number(0, 25), 10);
        Due.is("number(0, 1), below m of a REIGN", x.number(0, 1), 25);
        Due.is("about(0, 2)", x.about(0, 2), 1);
        Due.is("lasts(0, 0, 1)", x.lasts(0, 0, 1), 1);
        Due.is("number(1, 4), as OTHER", x.number(1, 4), 10);
        long before = x.digest();
        Due.refused("number(1, 3)", x, before, x.number(1, 3), OUTSIDE);
        Due.refused("number(0, 0)", x, before, x.number(0, 0), OUTSIDE);
        Due.refused("number(0, 61)", x, before, x.number(0, 61), OUTSIDE);
        Due.refused("number(2, 0)", x, before, x.number(2, 0), UNKNOWN);
        Due.refused("number(-1, 5)", x, before, x.number(-1, 5), UNKNOWN);
        Due.is("number(0, 60)", x.number(0, 60), 1);
    }

    public static void main(String[] args) {
        aNewObject();
        reignsAreNumberedAsTold();
        reignsThatAreRefused();
        reignsInAll();
        reignsTakenAsKinds();
        lengths();
        numbers();
        Due.end();
    }
}
