import java.util.ArrayList;
import java.util.List;

/** Promises 32 and 33: count, digest; and the constants of the face. */
public final class WholeTest {
    private static void counted() {
        ReignLadders x = new ReignLadders();
        x.reign(0, 0, 5, 0, 0);
        x.reign(1, 0, 5, 0, 0);
        x.reign(1, 0, 5, 0, 0);
        x.ring(0, 1, 0, 0);
        x.ring(0, 1, 1, 0);
        Due.text(x, 0, "C:1");
        for (int more = 0; more < 4; more++) {
            Due.text(x, 1, "B:1");
        }
        Due.write(x, "C:1?l");
        for (int more = 0; more < 6; more++) {
            x.wish(0, 1, 1, 1, 0);
        }
        for (int more = 0; more < 7; more++) {
            x.doubt(0, 0, 0);
        }
        int[] want = {3, 2, 1, 4, 5, 6, 7};
        for (int what = 0; what <= 6; what++) {
            Due.is("count(" + what + ")", x.count(what), want[what]);
        }
        Due.is("count(7)", x.count(7), -102);
        Due.is("count(-1)", x.count(-1), -102);
    }

    private static long fold(long... numbers) {
        long h = 293;
        for (long number : numbers) {
            h = 31 * h + number;
        }
        return h;
    }

    private static void digested() {
        ReignLadders x = new ReignLadders();
        Due.is("digest() of a new object", x.digest(), fold(1, 0, 1, 0, 0, 0, 0, 0, 0, 0, 0));
        x.reign(3, 0, 12, 7, 2);
        x.tell(0, -44);
        Due.is("digest() of a reign", x.digest(),
                fold(3, 0, 12, 7, 2, -1, -44, 0, 1, 1, 0, 1, 1, 1, 0, 0, 0, 0, 0, 0));
        x.reign(3, 1, 9, 4, 3);
        x.sky(0, 5, -20, 80, -20, 4);
        x.ring(1, 2, 90, 9);
        x.letter(1, 3, 0, 8, 1);
        x.undo();
        Due.text(x, 1, "C:1?n=12");
        Due.text(x, 1, "B:0?k=2");
        x.reign(4, 0, 2, 0, 0);
        x.tie(2, 7, 1, 6, 3, 0);
        x.wish(0, 11, 2, 13, 15);
        Due.write(x, "B~");
        x.doubt(0, 9, 0);
        Due.is("digest() of all", x.digest(), fold(
                3, 0, 12, 7, 2, -1, -44, 3, 1, 9, 4, 3, 0, 0, 4, 0, 2, 0, 0, -1, 0,
                1, 0, 5, -1, -1, -1, 4, -20, 80, -20, 2, 1, 2, -1, -1, -1, 9, 0, 2, 7, 1, 6, 3, 0,
                0, 0, 0, 1, 1, 1, 0, 0,
                1, 0, 0, 1, 0, 1, 1, 0,
                0, 11, 2, 13, 15,
                'B', '~',
                3, 3, 0, 2, 2, 1, 1));
    }

    /** Whatever a call may change that is told, shows in the digest. */
    private static void unlike() {
        List<Long> seen = new ArrayList<>();
        ReignLadders x = new ReignLadders();
        x.reign(0, 0, 5, 0, 0);
        x.reign(1, 0, 5, 0, 0);
        seen.add(x.digest());
        x.tell(1, 5);
        seen.add(x.digest());
        x.number(1, 6);
        seen.add(x.digest());
        x.sky(0, 1, 4, 4, 5, 0);
        seen.add(x.digest());
        x.undo();
        x.sky(0, 1, 4, 5, 5, 0);
        seen.add(x.digest());
        x.letters(65);
        seen.add(x.digest());
        x.doubt(1, 0, 0);
        seen.add(x.digest());
        x.wish(0, 1, 1, 1, 0);
        seen.add(x.digest());
        for (int one = 0; one < seen.size(); one++) {
            for (int two = 0; two < one; two++) {
                Due.is("digests " + one + " and " + two + " alike", seen.get(one).equals(seen.get(two)) ? 1 : 0, 0);
            }
        }
    }

    /** Questions change nothing, but for doubt(). */
    private static void questionsChangeNothing() {
        ReignLadders x = new ReignLadders();
        x.reign(0, 3, 21, 12, 0);
        x.reign(0, 1, 9, 3, 1);
        x.reign(1, 5, 9, 3, 0);
        x.sky(0, 1, 5, 6, 7, 0);
        x.tie(2, 1, 1, 1, 4, 0);
        x.wish(2, 1, 0, 1, 9);
        Due.text(x, 1, "C:1?k=3");
        Due.write(x, "C:1?");
        long before = x.digest();
        x.about(0, 1);
        x.as(0, 3);
        x.lasts(0, 0, 0);
        x.tied(0, 1);
        x.fault();
        x.counts(1, 0);
        x.believes(1, 0);
        x.can(0, 9);
        x.span(1, 9, 1, 1);
        x.held(0, 9, 2, 0);
        x.floats(0, 9);
        x.open(0, 9);
        x.part();
        x.closes(0, 9, 0);
        x.best(0, 9);
        x.judge(0);
        x.count(3);
        Due.is("digest() behind questions", x.digest(), before);
    }

    private static void objectsApart() {
        ReignLadders x = new ReignLadders();
        ReignLadders y = new ReignLadders();
        x.reign(0, 0, 5, 0, 0);
        Due.text(x, 0, "C:1");
        Due.write(x, "abc");
        Due.is("digest() of the other object", y.digest(), new ReignLadders().digest());
    }

    public static void main(String[] args) {
        Due.is("NONE", ReignLadders.NONE, -1);
        Due.is("UNKNOWN", ReignLadders.UNKNOWN, -101);
        Due.is("OUTSIDE", ReignLadders.OUTSIDE, -102);
        Due.is("STATE", ReignLadders.STATE, -103);
        Due.is("FULL", ReignLadders.FULL, -104);
        counted();
        digested();
        unlike();
        questionsChangeNothing();
        objectsApart();
        Due.end();
    }
}
