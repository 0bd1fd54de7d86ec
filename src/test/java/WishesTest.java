/** Promises 27 to 31: wish, closes, best, tell, judge. */
public final class WishesTest {
    private static final int UNKNOWN = -101, FULL = -104;

    private static ReignLadders threeLands() {
        ReignLadders x = new ReignLadders();
        x.reign(0, 0, 20, 0, 0);
        x.reign(1, 0, 20, 0, 0);
        x.reign(2, 0, 20, 0, 3);
        x.sky(0, 1, 100, 100, 100, 0);
        return x;
    }

    private static void wishesAsTold() {
        ReignLadders x = threeLands();
        for (int wish = 0; wish < 6; wish++) {
            Due.is("wish " + wish, x.wish(wish % 2, 99, 2, 1, 20), wish);
        }
        long before = x.digest();
        Due.refused("a seventh", x, before, x.wish(0, 1, 1, 1, 0), FULL);
        Due.refused("a seventh, OUTSIDE first", x, before, x.wish(0, 100, 1, 1, 0), -102);
        Due.is("count(5)", x.count(5), 6);
        Due.is("count(1)", x.count(1), 1);
    }

    private static void whatWishesClose() {
        ReignLadders x = threeLands();
        x.wish(1, 1, 0, 1, 5);
        x.wish(2, 1, 0, 11, 0);
        x.wish(0, 1, 1, 1, 0);
        x.wish(1, 5, 2, 1, 0);
        Due.is("open(0, 0)", x.open(0, 0), 4000);
        Due.is("closes(0, 0, 0)", x.closes(0, 0, 0), 3990);
        Due.is("closes(0, 0, 1), not KNOWN", x.closes(0, 0, 1), -1);
        Due.is("closes(0, 3, 1)", x.closes(0, 3, 1), 4000);
        Due.is("closes(0, 0, 2)", x.closes(0, 0, 2), 4000);
        Due.is("closes(0, 3, 3)", x.closes(0, 3, 3), 8);
        Due.is("best(0, 0)", x.best(0, 0), 2);
        Due.is("best(0, 3), the least of like ones", x.best(0, 3), 1);
        Due.is("a wish is no tie", x.open(0, 0), 4000);
        Due.text(x, 1, "B:0?k=0");
        Due.is("a wish is believed by all", x.closes(1, 0, 0), 3990);
        Due.is("closes(0, 0, 4)", x.closes(0, 0, 4), UNKNOWN);
        Due.is("closes(0, 0, -1)", x.closes(0, 0, -1), UNKNOWN);
        x.tie(1, 1, 0, 3, 0, 0);
        Due.is("another tie forbids it", x.closes(0, 0, 2), -1);
        Due.is("nothing left to close", x.closes(0, 0, 0), 0);
        Due.is("best of none to close", x.best(0, 0), 0);
        x.tie(1, 1, 0, 4, 0, 0);
        Due.is("no ladder without it", x.closes(0, 0, 0), -1);
        Due.is("best without a ladder", x.best(0, 0), -1);
    }

    private static void wishesHoldNothing() {
        ReignLadders x = threeLands();
        x.ring(1, 1, 90, 0);
        x.letter(1, 1, 0, 1, 0);
        x.wish(1, 1, 0, 5, 0);
        x.wish(0, 1, 1, 9, 0);
        Due.is("best(0, 0)", x.best(0, 0), 1);
        Due.is("span of 1, least", x.span(0, 0, 1, 0), 90);
        Due.is("span of 1, greatest", x.span(0, 0, 1, 1), 100);
        Due.is("held, least of 1", x.held(0, 0, 1, 0), 2);
        Due.is("held, greatest of 1", x.held(0, 0, 1, 1), 5);
        Due.is("floats(0, 3)", x.floats(0, 3), 4);
        Due.text(x, 1, "B:0?k=2");
        Due.is("part()", x.part(), 1);
        Due.text(x, 0, "B:0?k>0");
        Due.is("doubt by a school that believes no sky", x.doubt(0, 0, 0), 0);
        x.ring(1, 1, 101, 0);
        x.strike(0);
        Due.is("doubt(0, 0, 0)", x.doubt(0, 0, 0), 1);
        Due.is("doubt(0, 0, 1)", x.doubt(0, 0, 1), 2);
        Due.is("held without a ladder", x.held(0, 0, 1, 1), 0);
    }

    private static void noWishCanBe() {
        ReignLadders x = threeLands();
        Due.is("best of no wishes", x.best(0, 9), -1);
        x.reign(0, 0, 20, 0, 0);
        x.wish(0, 1, 3, 1, 19);
        x.wish(2, 1, 0, 1, 3);
        Due.is("twenty years are not nineteen", x.best(0, 0), -1);
        Due.is("one that can be", x.best(0, 3), 1);
        Due.text(x, 0, "C:1");
        Due.is("nineteen as this school counts", x.best(0, 0), 0);
        Due.is("which closes nothing", x.closes(0, 0, 0), 0);
    }

    private static void toldYears() {
        ReignLadders x = threeLands();
        Due.is("tell(0, -2000)", x.tell(0, -2000), 0);
        Due.is("tell(0, 2000)", x.tell(0, 2000), -2000);
        long before = x.digest();
        Due.refused("tell(0, 2001)", x, before, x.tell(0, 2001), -9002);
        Due.refused("tell(0, -2001)", x, before, x.tell(0, -2001), -9002);
        Due.refused("tell(3, 2001)", x, before, x.tell(3, 2001), -9001);
        Due.refused("tell(-1, 0)", x, before, x.tell(-1, 0), -9001);
        Due.is("tell(0, 0)", x.tell(0, 0), 2000);
    }

    private static void judgedByLengths() {
        int[][] kinds = {{0, 10, 3}, {2, 10, 3}, {3, 10, 3}, {3, 2, 0}, {4, 10, 3}, {5, 10, 3}, {6, 10, 3}};
        for (int[] kind : kinds) {
            ReignLadders x = new ReignLadders();
            x.reign(1, kind[0], kind[1], kind[2], 0);
            x.reign(1, 1, 9, 7, 9);
            Due.text(x, 1, "C:1?l=1");
            for (int years = -1; years <= 61; years++) {
                x.tell(0, 3 * years);
                x.tell(1, 4 * years - 7);
                for (int school = 0; school <= 1; school++) {
                    int full = kind[1] - school, other = Math.max(0, kind[2] - school);
                    boolean may = years == full;
                    if (kind[0] == 2) may = years >= 0 && years <= full;
                    if (kind[0] == 3) may |= years == other;
                    if (kind[0] == 5) may = years >= 1 && years <= 60;
                    if (kind[0] == 6) may |= years == 0;
                    Due.is("kind " + kind[0] + ", " + years + " years, judge(" + school + ")", x.judge(school), may ? -1 : 101);
                }
            }
        }
    }

    private static void judgedByTies() {
        ReignLadders x = threeLands();
        x.tie(0, 5, 1, 2, 3, 9);
        x.ring(2, 4, 50, 0);
        x.letter(1, 3, 2, 60, 0);
        x.sky(1, 2, 105, 99, 200, 0);
        x.tell(0, 100);
        x.tell(1, 104);
        x.tell(2, 47);
        Due.is("all is well", x.judge(0), -1);
        x.tell(1, 199);
        Due.is("the tie", x.judge(0), 201);
        Due.text(x, 1, "B:0?k=0");
        Due.is("the letter, where no tie is believed", x.judge(1), 203);
        x.tell(2, 142);
        Due.is("the last sky year", x.judge(1), -1);
        x.tell(1, 198);
        Due.is("the sky", x.judge(1), 204);
        x.tell(1, 98);
        Due.is("the second of its years, but not the tie", x.judge(0), 201);
        Due.is("judge(1)", x.judge(1), -1);
        x.tell(2, 46);
        Due.is("the ring ahead of the letter", x.judge(1), 202);
        x.tell(0, 101);
        Due.is("the first sky ahead of all", x.judge(0), 200);
        x.reign(0, 0, 20, 0, 9);
        x.tell(3, 122);
        Due.is("a reign ahead of ties", x.judge(0), 103);
        x.tell(0, 100);
        x.reign(0, 0, 20, 0, 9);
        x.tell(3, 120);
        x.tell(4, 140);
        x.tell(2, 47);
        x.tell(1, 104);
        x.tie(0, 1, 1, 1, 0, 0);
        x.undo();
        x.undo();
        x.letter(1, 99, 2, 1, 0);
        Due.is("the letter in place of the sky", x.judge(0), 204);
        x.undo();
        Due.is("a letter that is gone", x.judge(0), -1);
        Due.is("judge(2)", x.judge(2), UNKNOWN);
        Due.is("judge(-1)", x.judge(-1), UNKNOWN);
        Due.is("judge of nothing", new ReignLadders().judge(1), -1);
    }

    private static void judgedAtTheEdges() {
        ReignLadders x = threeLands();
        x.undo();
        x.tie(0, 10, 1, 4, 5, 0);
        for (int late = -9; late <= 20; late++) {
            x.tell(1, late);
            Due.is("a tie, " + late + " years", x.judge(0), late >= 1 && late <= 11 ? -1 : 200);
        }
        x.undo();
        x.letter(0, 10, 1, 4, 0);
        for (int late = -9; late <= 20; late++) {
            x.tell(1, late);
            Due.is("a letter, " + late + " years", x.judge(0), late >= 6 ? -1 : 200);
        }
        x.undo();
        x.ring(1, 10, 4, 0);
        for (int late = -9; late <= 20; late++) {
            x.tell(1, late);
            Due.is("a ring, " + late + " years", x.judge(0), late >= -5 ? -1 : 200);
        }
    }

    public static void main(String[] args) {
        wishesAsTold();
        whatWishesClose();
        wishesHoldNothing();
        noWishCanBe();
        toldYears();
        judgedByLengths();
        judgedByTies();
        judgedAtTheEdges();
        Due.end();
    }
}
