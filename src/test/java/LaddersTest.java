/** Promises 20 to 26: can, span, held, doubt, floats, open, part. */
public final class LaddersTest {
    private static final int UNKNOWN = -101, OUTSIDE = -102, STATE = -103, NO_SPAN = -9999;

    private static void spans(String what, ReignLadders x, int edition, int... ends) {
        for (int reign = 0; 2 * reign < ends.length; reign++) {
            Due.is(what + ": least of " + reign, x.span(0, edition, reign, 0), ends[2 * reign]);
            Due.is(what + ": greatest of " + reign, x.span(0, edition, reign, 1), ends[2 * reign + 1]);
        }
    }

    private static void oneLandOfEachKind() {
        int[][] kinds = {{0, 10, 3, 10, 10}, {2, 10, 3, 0, 10}, {3, 10, 3, 3, 10}, {4, 10, 3, 10, 10}, {5, 10, 3, 1, 60},
            {6, 10, 3, 0, 10}};
        for (int[] kind : kinds) {
            ReignLadders x = new ReignLadders();
            x.reign(3, kind[0], kind[1], kind[2], 0);
            x.reign(3, 0, 5, 0, 0);
            x.reign(3, 1, 8, 6, 0);
            x.sky(0, 1, 100, 100, 100, 0);
            spans("kind " + kind[0], x, 0, 100, 100, 100 + kind[3], 100 + kind[4], 99 + kind[3], 99 + kind[4]);
        }
    }

    private static void boundsOfYears() {
        ReignLadders x = new ReignLadders();
        x.reign(0, 0, 60, 0, 0);
        x.reign(0, 0, 1, 0, 0);
        x.reign(1, 0, 7, 0, 1);
        x.reign(1, 1, 60, 60, 2);
        spans("bounds", x, 9, -2000, 1940, -1940, 2000, -1947, 2000, -2000, 1947);
        spans("bounds known by 1", x, 1, -2000, 1940, -1940, 2000, -2000, 2000, NO_SPAN, NO_SPAN);
        spans("bounds known by 0", x, 0, -2000, 1940, -1940, 2000, NO_SPAN, NO_SPAN, NO_SPAN, NO_SPAN);
        Due.is("open(0, 9)", x.open(0, 9), 3940 + 3940 + 3947 + 3947);
        Due.is("open(0, 1)", x.open(0, 1), 3940 + 3940 + 4000);
        Due.is("open(0, 0)", x.open(0, 0), 3940 + 3940);
    }

    private static void readingsLeaveGaps() {
        ReignLadders x = new ReignLadders();
        x.reign(0, 3, 21, 12, 0);
        x.reign(0, 0, 5, 0, 0);
        x.sky(0, 1, 0, 0, 0, 0);
        x.ring(1, 1, 13, 0);
        spans("12 is too short", x, 0, 0, 0, 21, 21);
        x.sky(1, 1, 12, 13, 20, 0);
        Due.is("neither 12 nor 21", x.can(0, 0), 0);
        spans("neither 12 nor 21", x, 0, NO_SPAN, NO_SPAN, NO_SPAN, NO_SPAN);
        Due.is("number(0, 20)", x.number(0, 20), 21);
        Due.is("20 it may be", x.can(0, 0), 1);
        spans("20 it may be", x, 0, 0, 0, 20, 20);
    }

    private static void doubledLastsNothing() {
        ReignLadders x = new ReignLadders();
        x.reign(0, 6, 9, 5, 0);
        x.reign(0, 0, 5, 0, 0);
        x.sky(0, 2, 1, 1, 1, 0);
        x.sky(1, 1, 5, 9, 9, 0);
        spans("doubled", x, 0, 0, 0, 9, 9);
        x.undo();
        x.letter(1, 1, 0, 9, 0);
        spans("doubled, with a letter", x, 0, 0, 0, 0, 0);
    }

    private static void eachSortOfTie() {
        ReignLadders x = new ReignLadders();
        x.reign(0, 0, 20, 0, 0);
        x.reign(1, 0, 20, 0, 0);
        x.sky(0, 3, -10, 30, -10, 0);
        spans("sky", x, 0, -12, 28, -2000, 2000);
        x.tie(0, 5, 1, 2, 4, 0);
        spans("tie", x, 0, -12, 28, -13, 35);
        x.ring(1, 4, 0, 0);
        spans("ring", x, 0, 28, 28, 27, 35);
        x.letter(1, 9, 0, 10, 0);
        spans("letter", x, 0, 28, 28, 27, 29);
        x.letter(1, 9, 0, 7, 0);
        Due.is("a letter too early", x.can(0, 0), 0);
        x.undo();
        x.letter(1, 9, 0, 8, 0);
        spans("a letter just in time", x, 0, 28, 28, 27, 27);
    }

    private static void twoSkies() {
        ReignLadders x = new ReignLadders();
        x.reign(0, 0, 20, 0, 0);
        x.reign(0, 2, 20, 0, 0);
        x.reign(0, 0, 20, 0, 0);
        x.sky(0, 1, -300, 0, 300, 0);
        x.sky(2, 1, -275, 19, 341, 0);
        spans("only the first years go along", x, 0, -300, -300, -280, -280, -275, -275);
        x.number(1, 21);
        spans("the first, and the last", x, 0, -300, 300, -280, 320, -275, 341);
        x.ring(1, 1, 0, 0);
        spans("the last", x, 0, 300, 300, 320, 320, 341, 341);
        x.undo();
        x.letter(2, 1, 1, 6, 0);
        spans("the first, with a letter", x, 0, -300, -300, -280, -280, -275, -275);
        x.undo();
        x.undo();
        x.sky(0, 2, 301, 299, 1, 0);
        spans("two skies of one reign", x, 0, 0, 300, 20, 320, 20, 341);
        x.undo();
        x.sky(2, 1, -2000, -2000, -2000, 0);
        Due.is("years that are no year of the land's first", x.can(0, 0), 0);
    }

    private static void twoSkiesOfTwoLands() {
        ReignLadders x = new ReignLadders();
        x.reign(0, 0, 20, 0, 0);
        x.reign(1, 0, 20, 0, 0);
        x.sky(0, 1, 10, 20, 30, 0);
        x.sky(1, 1, -10, -20, -30, 0);
        spans("apart", x, 0, 10, 30, -30, -10);
        x.ring(1, 1, -25, 0);
        spans("from below", x, 0, 10, 30, -20, -10);
        x.letter(0, 1, 1, 41, 0);
        spans("a letter", x, 0, 10, 30, -20, -10);
        x.undo();
        x.letter(0, 1, 1, 31, 0);
        spans("a closer letter", x, 0, 10, 20, -20, -10);
        x.undo();
        x.tie(1, 40, 0, 1, 1, 0);
        spans("a tie", x, 0, 20, 30, -20, -10);
    }

    private static void tenReigns() {
        ReignLadders x = new ReignLadders();
        for (int reign = 0; reign < 10; reign++) {
            x.reign(0, reign % 4 == 3 ? 3 : 0, 60, 50, 0);
        }
        x.sky(9, 1, 7, 7, 7, 0);
        Due.is("least of 0", x.span(0, 0, 0, 0), 7 - 540);
        Due.is("greatest of 0", x.span(0, 0, 0, 1), 7 - 520);
        Due.is("least of 8", x.span(0, 0, 8, 0), 7 - 60);
        Due.is("least of 9", x.span(0, 0, 9, 0), 7);
        ReignLadders y = new ReignLadders();
        for (int reign = 0; reign < 10; reign++) {
            y.reign(reign / 2, 0, 60, 50, 0);
        }
        y.sky(8, 1, 0, 9, 3, 0);
        y.sky(9, 1, 63, 60, 90, 0);
        y.tie(7, 1, 9, 1, 2, 0);
        Due.is("least of 7", y.span(0, 0, 7, 0), 58);
        Due.is("greatest of 6", y.span(0, 0, 6, 1), 5);
    }

    private static void threeMisread() {
        ReignLadders x = new ReignLadders();
        x.reign(0, 3, 41, 40, 0);
        x.reign(0, 6, 10, 0, 0);
        x.reign(1, 3, 7, 4, 0);
        x.reign(0, 0, 1, 0, 0);
        x.reign(1, 0, 1, 0, 0);
        x.sky(0, 1, 0, 0, 0, 0);
        x.tie(4, 1, 3, 1, 0, 0);
        spans("all readings", x, 0, 0, 0, 40, 41, 33, 47, 40, 51, 40, 51);
        x.sky(2, 1, 36, 35, 34, 0);
        spans("41 and 0, or 40 and 0", x, 0, 0, 0, 40, 41, 34, 36, 40, 41, 40, 41);
        x.letter(3, 1, 1, 10, 0);
        x.ring(1, 1, 41, 0);
        spans("41 and 0", x, 0, 0, 0, 41, 41, 34, 34, 41, 41, 41, 41);
    }

    private static void editionsOfTies() {
        ReignLadders x = new ReignLadders();
        x.reign(0, 0, 20, 0, 0);
        x.reign(1, 0, 20, 0, 3);
        x.sky(0, 1, 7, 7, 7, 2);
        x.tie(0, 1, 1, 1, 0, 0);
        x.ring(1, 1, 8, 5);
        spans("known by 1", x, 1, -2000, 2000, NO_SPAN, NO_SPAN);
        spans("known by 2", x, 2, 7, 7, NO_SPAN, NO_SPAN);
        spans("known by 3", x, 3, 7, 7, 7, 7);
        Due.is("can(0, 4)", x.can(0, 4), 1);
        Due.is("can(0, 5)", x.can(0, 5), 0);
        Due.is("floats(0, 1)", x.floats(0, 1), 1);
        Due.is("floats(0, 2)", x.floats(0, 2), 0);
    }

    private static void refusalsOfAll() {
        ReignLadders x = new ReignLadders();
        x.reign(0, 0, 20, 0, 0);
        long before = x.digest();
        int[][] unlike = {{2, 10, UNKNOWN}, {-1, 0, UNKNOWN}, {0, 10, OUTSIDE}, {1, -1, OUTSIDE}};
        for (int[] u : unlike) {
            String which = " of " + u[0] + ", " + u[1];
            Due.refused("can" + which, x, before, x.can(u[0], u[1]), u[2]);
            Due.refused("span" + which, x, before, x.span(u[0], u[1], 9, 9), u[2] == UNKNOWN ? -9001 : -9002);
            Due.refused("held" + which, x, before, x.held(u[0], u[1], 9, 9), u[2]);
            Due.refused("doubt" + which, x, before, x.doubt(u[0], u[1], 9), u[2]);
            Due.refused("floats" + which, x, before, x.floats(u[0], u[1]), u[2]);
            Due.refused("open" + which, x, before, x.open(u[0], u[1]), u[2]);
            Due.refused("closes" + which, x, before, x.closes(u[0], u[1], 9), u[2]);
            Due.refused("best" + which, x, before, x.best(u[0], u[1]), u[2]);
        }
        Due.is("span of reign 1", x.span(0, 9, 1, 2), -9001);
        Due.is("span of reign -1", x.span(0, 9, -1, 0), -9001);
        Due.is("span, side 2", x.span(0, 9, 0, 2), -9002);
        Due.is("span, side -1", x.span(0, 9, 0, -1), -9002);
        Due.is("held of reign 1", x.held(0, 9, 1, 2), UNKNOWN);
        Due.is("held of reign -1", x.held(0, 9, -1, 0), UNKNOWN);
        Due.is("held, side 2", x.held(0, 9, 0, 2), OUTSIDE);
        Due.is("held, side -1", x.held(0, 9, 0, -1), OUTSIDE);
        Due.refused("doubt, what 2", x, before, x.doubt(0, 9, 2), OUTSIDE);
        Due.refused("doubt, what -1", x, before, x.doubt(0, 9, -1), OUTSIDE);
    }

    private static void whatHolds() {
        ReignLadders x = new ReignLadders();
        x.reign(0, 0, 20, 0, 0);
        x.reign(1, 0, 20, 0, 1);
        x.sky(0, 1, 0, 10, 5, 0);
        x.tie(1, 1, 0, 1, 2, 0);
        x.ring(1, 1, 4, 0);
        x.ring(1, 2, 5, 9);
        x.letter(1, 1, 0, 5, 0);
        spans("held", x, 9, 5, 10, 4, 12);
        Due.is("the least of 1, by 8", x.held(0, 8, 1, 0), 4);
        Due.is("the least of 1: two rings hold it alike", x.held(0, 9, 1, 0), 0);
        Due.is("the greatest of 1", x.held(0, 9, 1, 1), 3);
        Due.is("the greatest of 0", x.held(0, 9, 0, 1), 1);
        Due.is("the least of 0", x.held(0, 8, 0, 0), 7);
        Due.is("not KNOWN", x.held(0, 0, 1, 0), 0);
        Due.text(x, 1, "B:0?k=0");
        Due.is("the greatest of 1 by the other school", x.held(1, 9, 1, 1), 1 + 16);
        x.ring(0, 1, 11, 0);
        Due.is("no ladder", x.can(0, 9), 0);
        Due.is("held without a ladder", x.held(0, 9, 1, 1), 0);
    }

    private static void whatIsDoubted() {
        ReignLadders x = new ReignLadders();
        x.reign(0, 0, 20, 0, 0);
        x.reign(1, 0, 20, 0, 0);
        x.sky(0, 1, 0, 0, 0, 0);
        x.sky(0, 1, 3, 3, 3, 0);
        x.ring(1, 1, 50, 2);
        x.letter(1, 1, 0, 30, 1);
        Due.is("doubt by 0", x.doubt(0, 0, 0), 1);
        Due.is("rivals by 0", x.doubt(0, 0, 1), 1);
        Due.is("doubt by 2: the ring and the letter go along without a sky", x.doubt(0, 2, 0), 3);
        Due.is("rivals by 2: a sky, and the ring or the letter", x.doubt(0, 2, 1), 4);
        Due.text(x, 1, "B:0?r=0");
        Due.is("doubt of the other", x.doubt(1, 9, 0), 2);
        Due.is("rivals of the other", x.doubt(1, 9, 1), 2);
        Due.is("doubt of none", x.doubt(1, 1, 0), 0);
        Due.is("rivals of none", x.doubt(1, 1, 1), 0);
        Due.is("count(6)", x.count(6), 8);
        x.doubt(0, 9, 0);
        x.doubt(0, 10, 0);
        x.doubt(2, 9, 0);
        x.doubt(0, 9, 2);
        Due.is("refused ones do not count", x.count(6), 9);
        Due.is("a tenth", x.doubt(0, 2, 1), 4);
        Due.refused("an eleventh", x, x.digest(), x.doubt(0, 9, 0), STATE);
        Due.is("an eleventh, OUTSIDE first", x.doubt(0, 9, 2), OUTSIDE);
        Due.is("count(6) at last", x.count(6), 10);
    }

    private static void allDoubted() {
        ReignLadders x = new ReignLadders();
        x.reign(0, 0, 20, 0, 0);
        x.sky(0, 99, -2000, -1990, -1980, 0);
        Due.is("a sky ahead of all years", x.doubt(0, 0, 0), 1);
        Due.is("has no rival", x.doubt(0, 0, 1), 0);
        x.reign(0, 0, 20, 0, 0);
        x.letter(0, 1, 1, 1, 0);
        x.letter(1, 1, 0, 20, 0);
        Due.is("with a letter too early", x.doubt(0, 0, 0), 5);
        x.undo();
        x.undo();
        x.letter(1, 1, 0, 20, 0);
        Due.is("all there are", x.doubt(0, 0, 0), 3);
    }

    private static void manyDoubted() {
        ReignLadders x = new ReignLadders();
        x.reign(0, 0, 20, 0, 0);
        x.reign(1, 0, 20, 0, 0);
        for (int tie = 0; tie < 8; tie++) {
            x.tie(0, 1 + tie / 2, 1, 1, 0, 0);
        }
        Due.is("six of eight", x.doubt(0, 0, 0), 0x3f);
        Due.is("in four ways", x.doubt(0, 0, 1), 3);
    }

    private static void whatFloats() {
        ReignLadders x = new ReignLadders();
        for (int reign = 0; reign < 10; reign++) {
            x.reign(reign / 2, 0, 20, 0, reign == 9 ? 1 : 0);
        }
        Due.is("all float", x.floats(0, 0), 0x1ff);
        Due.is("all float, by 1", x.floats(0, 1), 0x3ff);
        x.ring(0, 1, 0, 0);
        Due.is("a land is held by a ring", x.floats(0, 0), 0x1fc);
        x.tie(4, 1, 2, 1, 5, 0);
        x.letter(7, 1, 5, 1, 0);
        Due.is("lands that are joined float together", x.floats(0, 0), 0x1fc);
        x.letter(1, 1, 6, 1, 0);
        Due.is("held by way of three lands", x.floats(0, 0), 0x100);
        Due.text(x, 1, "B:0?k=0");
        Due.is("without the tie", x.floats(1, 0), 0x10c);
        x.undo();
        x.sky(9, 1, 0, 0, 0, 0);
        Due.is("a sky that is not KNOWN", x.floats(0, 0), 0x1fc);
        Due.is("a sky that is", x.floats(0, 1), 0x0fc);
        Due.text(x, 1, "B:0?k<3");
        Due.is("nothing believed holds", x.floats(1, 1), 0x3ff);
    }

    private static void whatFloatsAlone() {
        ReignLadders x = new ReignLadders();
        x.reign(0, 0, 20, 0, 5);
        x.reign(1, 0, 20, 0, 0);
        x.reign(2, 0, 20, 0, 0);
        x.sky(2, 1, 0, 0, 0, 0);
        Due.is("one of which is not KNOWN", x.floats(0, 0), 2);
        Due.is("all KNOWN", x.floats(0, 5), 3);
        x.letter(2, 1, 0, 1, 0);
        Due.is("a letter to the first", x.floats(0, 5), 2);
        x.tie(1, 1, 0, 1, 0, 0);
        Due.is("and a tie to it", x.floats(0, 5), 0);
        Due.is("by way of one that is not KNOWN", x.floats(0, 4), 2);
    }

    private static void whatIsOpen() {
        ReignLadders x = new ReignLadders();
        Due.is("open of nothing", x.open(0, 9), 0);
        x.reign(0, 2, 5, 0, 0);
        x.reign(0, 0, 5, 0, 1);
        x.sky(0, 1, 3, 1, 4, 0);
        Due.is("open by 0", x.open(0, 0), 3);
        Due.is("open by 1", x.open(0, 1), 11);
        Due.text(x, 1, "C:1");
        Due.is("open as the other counts", x.open(1, 1), 10);
        x.ring(0, 1, 5, 1);
        Due.is("no ladder", x.open(0, 1), -1);
        Due.is("by 0 it stands", x.open(0, 0), 3);
    }

    private static void whereSchoolsPart() {
        ReignLadders x = new ReignLadders();
        Due.is("nowhere, without reigns", x.part(), -1);
        x.reign(0, 0, 10, 0, 0);
        x.reign(1, 0, 10, 0, 0);
        x.reign(0, 0, 10, 0, 9);
        x.sky(0, 1, 0, 0, 0, 0);
        Due.is("nowhere", x.part(), -1);
        Due.text(x, 1, "C:1?l=0");
        Due.is("one counts otherwise", x.part(), 2);
        x.tie(1, 1, 0, 1, 0, 0);
        Due.is("a tie that both believe", x.part(), 2);
        Due.text(x, 0, "B:0?k=0");
        Due.is("a tie that one believes", x.part(), 1);
        x.ring(0, 1, 1, 9);
        Due.is("no ladder for both", x.part(), -1);
        Due.text(x, 0, "B:0?k=2");
        Due.is("no ladder for one", x.part(), 0);
        ReignLadders y = new ReignLadders();
        y.reign(0, 0, 10, 0, 0);
        y.reign(1, 0, 10, 0, 0);
        y.sky(0, 1, 0, 5, 9, 0);
        y.letter(1, 1, 0, 1, 0);
        Due.text(y, 0, "B:0?k=3");
        Due.is("only the greatest year is unlike", y.part(), 1);
    }

    public static void main(String[] args) {
        oneLandOfEachKind();
        boundsOfYears();
        readingsLeaveGaps();
        doubledLastsNothing();
        eachSortOfTie();
        twoSkies();
        twoSkiesOfTwoLands();
        tenReigns();
        threeMisread();
        editionsOfTies();
        refusalsOfAll();
        whatHolds();
        whatIsDoubted();
        allDoubted();
        manyDoubted();
        whatFloats();
        whatFloatsAlone();
        whatIsOpen();
        whereSchoolsPart();
        Due.end();
    }
}
