import java.math.BigInteger;
import java.util.ArrayList;
import java.util.Arrays;
import java.util.List;

/** Promises 32 and 33, each sentence that names an edge: count, digest; and what is said of all calls. */
public final class EdgesOfTheWholeTest {
    private static final int OUTSIDE = Edge.OUTSIDE, FULL = Edge.FULL, STATE = Edge.STATE;
    private static final int REIGN = 0, BESIDE = 1, MISREAD = 3, CALLS = 512;

    // ---- the objects that are asked

    /** As much as there may be of all. */
    private static ReignLadders full() {
        ReignLadders x = new ReignLadders();
        for (int reign = 0; reign < 10; reign++) {
            x.reign(reign % 5, reign < 3 ? MISREAD : reign < 5 ? REIGN : BESIDE, 60, 60, 9);
            x.tell(reign, reign % 2 == 0 ? -2000 : 2000);
        }
        x.sky(0, 99, -2000, -2000, 2000, 9);
        x.sky(9, 99, 2000, 2000, 2000, 0);
        for (int tie = 2; tie < 6; tie++) {
            x.tie(9, 99, tie, 99, 20, 9);
        }
        x.letter(8, 1, 9, 99, 9);
        x.ring(9, 99, -2000, 9);
        for (int wish = 0; wish < 6; wish++) {
            x.wish(9, 99, wish, 99, 20);
        }
        for (int text = 0; text < 6; text++) {
            Due.text(x, 0, "C:1?n>5&l<4|k=" + text);
            Due.text(x, 1, "B:" + text % 2 + "?r=" + text);
        }
        for (int doubt = 0; doubt < 10; doubt++) {
            x.doubt(0, 9, 0);
        }
        Due.write(x, "~".repeat(60));
        return x;
    }

    // ---- promise 32

    private static void sevenAreCounted() {
        Edge.ends(Worlds::two, 0, 6, ReignLadders::count, 2, 0, OUTSIDE);
        Edge.beyond(EdgesOfTheWholeTest::full, 0, 6, ReignLadders::count, OUTSIDE);
    }

    private static void fromNoneToAllAreCounted() {
        int[] most = {10, 8, 6, 6, 60, 6, 10};
        ReignLadders x = full();
        for (int what = 0; what <= 6; what++) {
            Edge.is("count(" + what + ") of a new object", new ReignLadders().count(what), 0);
            Edge.is("count(" + what + ") of a full one", x.count(what), most[what]);
        }
        x.reign(4, REIGN, 1, 0, 9);
        x.ring(0, 1, 0, 0);
        x.letters(65);
        x.wish(0, 1, 1, 1, 0);
        x.doubt(0, 9, 0);
        for (int what = 0; what <= 6; what++) {
            Edge.is("count(" + what + ") of one that was more than full", x.count(what), most[what]);
        }
        x.blank();
        Due.write(x, "C:1");
        Edge.is("text(0)", x.text(0), FULL);
        Edge.is("text(1)", x.text(1), FULL);
        Edge.is("count(2) behind it", x.count(2), 6);
        Edge.is("count(3) behind it", x.count(3), 6);
    }

    private static void eachIsCountedByItself() {
        Edge.Call[] more = {x -> x.reign(0, REIGN, 10, 0, 0), x -> x.ring(0, 1, 0, 0), x -> tell(x, 0), x -> tell(x, 1),
            x -> x.letters(65), x -> x.wish(0, 1, 1, 1, 0), x -> x.doubt(0, 9, 0)};
        for (int what = 0; what <= 6; what++) {
            ReignLadders x = Worlds.two();
            int[] before = counts(x);
            more[what].on(x);
            int[] behind = counts(x);
            for (int other = 0; other <= 6; other++) {
                Edge.is("count(" + other + ") behind one more of " + what, behind[other],
                        before[other] + (other == what ? 1 : 0));
            }
        }
    }

    private static long tell(ReignLadders x, int school) {
        return Due.text(x, school, "C:1");
    }

    private static int[] counts(ReignLadders x) {
        int[] counts = new int[7];
        for (int what = 0; what <= 6; what++) {
            counts[what] = x.count(what);
        }
        return counts;
    }

    // ---- promise 33

    /** The document's numbers in its order, multiplied without a bound and cut to 64 bits at last. */
    private static long digestOf(List<Long> numbers) {
        BigInteger h = BigInteger.valueOf(293);
        for (long number : numbers) {
            h = h.multiply(BigInteger.valueOf(31)).add(BigInteger.valueOf(number));
        }
        return h.longValue();
    }

    /** What the calls tell, but for what none tells: {years of the TOLD LADDER, of SKIES, WISHES, letters}. */
    private static List<Long> numbersOf(ReignLadders x, int[] told, int[][] skies, int[][] wishes, String page) {
        List<Long> numbers = new ArrayList<>();
        for (int reign = 0; reign < x.count(0); reign++) {
            for (int what = 0; what <= 5; what++) {
                numbers.add((long) x.about(reign, what));
            }
            numbers.add((long) told[reign]);
        }
        for (int tie = 0; tie < x.count(1); tie++) {
            for (int what = 0; what <= 6; what++) {
                numbers.add((long) x.tied(tie, what));
            }
            addAll(numbers, skies[tie]);
        }
        for (int school = 0; school <= 1; school++) {
            for (int reign = 0; reign < x.count(0); reign++) {
                numbers.add((long) x.counts(school, reign));
            }
            for (int tie = 0; tie < x.count(1); tie++) {
                numbers.add((long) x.believes(school, tie));
            }
            numbers.add((long) x.can(school, 9));
            numbers.add((long) x.floats(school, 9));
        }
        for (int[] wish : wishes) {
            addAll(numbers, wish);
        }
        addAll(numbers, page.chars().toArray());
        addAll(numbers, counts(x));
        return numbers;
    }

    private static void addAll(List<Long> numbers, int[] more) {
        Arrays.stream(more).forEach(number -> numbers.add((long) number));
    }

    private static void digestOfNothing() {
        Long[] numbers = {1L, 0L, 1L, 0L, 0L, 0L, 0L, 0L, 0L, 0L, 0L};
        Edge.is("of a new object", new ReignLadders().digest(), digestOf(List.of(numbers)));
    }

    private static void digestWraps() {
        ReignLadders x = full();
        int[] told = {-2000, 2000, -2000, 2000, -2000, 2000, -2000, 2000, -2000, 2000};
        int[][] skies = new int[8][0];
        skies[0] = new int[] {-2000, -2000, 2000};
        skies[1] = new int[] {2000, 2000, 2000};
        int[][] wishes = new int[6][];
        for (int wish = 0; wish < 6; wish++) {
            wishes[wish] = new int[] {9, 99, wish, 99, 20};
        }
        Edge.is("of a full object", x.digest(), digestOf(numbersOf(x, told, skies, wishes, "~".repeat(60))));
    }

    private static void digestOfNumbersBelowNothing() {
        ReignLadders x = Worlds.two();
        x.tell(0, -1);
        x.tell(1, -2000);
        x.sky(1, 1, -1, -2000, -1, 0);
        int[][] skies = {{-1, -2000, -1}};
        Edge.is("of years below 0", x.digest(), digestOf(numbersOf(x, new int[] {-1, -2000}, skies, new int[0][], "")));
    }

    private static void likeYearsOfASkyAreDigested() {
        int[][] ways = {{7, 7, 8}, {7, 8, 7}, {8, 7, 7}, {7, 8, 8}, {7, 7, 7}};
        List<Long> seen = new ArrayList<>();
        for (int[] way : ways) {
            ReignLadders x = Worlds.two();
            x.sky(0, 1, way[0], way[1], way[2], 0);
            Edge.is("of " + Arrays.toString(way), x.digest(),
                    digestOf(numbersOf(x, new int[2], new int[][] {way}, new int[0][], "")));
            Edge.is(Arrays.toString(way) + " as one told before", seen.contains(x.digest()) ? 1 : 0, 0);
            seen.add(x.digest());
        }
    }

    private static void digestOfEachSortOfTie() {
        ReignLadders x = Worlds.two();
        x.ring(0, 1, 77, 0);
        x.letter(0, 1, 1, 2, 3);
        x.tie(0, 1, 1, 2, 0, 3);
        int[][] none = {{}, {}, {}};
        Edge.is("of a RING, a LETTER, a TIE", x.digest(), digestOf(numbersOf(x, new int[2], none, new int[0][], "")));
    }

    private static void digestIsByEditionNine() {
        ReignLadders x = new ReignLadders();
        x.reign(0, REIGN, 10, 0, 9);
        long floating = x.digest();
        x.ring(0, 1, 2000, 9);
        x.ring(0, 1, 1999, 9);
        Edge.is("of RINGS from edition 9", x.digest(), digestOf(numbersOf(x, new int[1], new int[2][0], new int[0][], "")));
        x.sky(0, 1, 0, 0, 0, 9);
        int[][] skies = {{}, {}, {0, 0, 0}};
        Edge.is("can(0, 9)", x.can(0, 9), 0);
        Edge.is("of what cannot be", x.digest(), digestOf(numbersOf(x, new int[1], skies, new int[0][], "")));
        x.undo();
        x.undo();
        x.undo();
        Edge.is("when all is undone", x.digest(), floating);
    }

    // ---- what is said of all calls

    private static void theLastCallsAreAnswered() {
        ReignLadders x = new ReignLadders();
        x.reign(0, REIGN, 1, 0, 0);
        for (int call = 1; call < CALLS - 1; call++) {
            x.number(0, 1 + call % 60);
        }
        Edge.is("the 512th call", x.number(0, 5), 1 + (CALLS - 2) % 60);
        ReignLadders y = full();
        ReignLadders z = full();
        for (int call = 0; call < 300; call++) {
            z.can(call % 2, call % 10);
        }
        Edge.is("digest() behind many calls", z.digest(), y.digest());
    }

    private static final int[] FAR_OFF = {Integer.MIN_VALUE, Integer.MIN_VALUE + 1, -2001, -1, 0, 1, 61, 2001,
        Integer.MAX_VALUE - 1, Integer.MAX_VALUE};

    /** No call throws, whatever it is told: all numbers are alike, in three objects each. */
    private static void noCallThrows() {
        for (int v : FAR_OFF) {
            allCalls(new ReignLadders(), v);
            allCalls(Worlds.two(), v);
            allCalls(full(), v);
        }
        ReignLadders x = full();
        for (int again = 0; again < 10; again++) {
            allCalls(x, again);
        }
        Edge.is("all calls came back, behind the 512th, too", 1, 1);
    }

    private static void allCalls(ReignLadders x, int v) {
        x.reign(v, v, v, v, v);
        x.about(v, v);
        x.as(v, v);
        x.lasts(v, v, v);
        x.number(v, v);
        x.tie(v, v, v, v, v, v);
        x.tie(0, v, 1, v, v, v);
        x.sky(v, v, v, v, v, v);
        x.ring(v, v, v, v);
        x.letter(v, v, v, v, v);
        x.tied(v, v);
        x.letters(v);
        x.fault();
        x.text(v);
        x.strike(v);
        x.counts(v, v);
        x.believes(v, v);
        x.can(v, v);
        x.span(v, v, v, v);
        x.held(v, v, v, v);
        x.doubt(v, v, v);
        x.floats(v, v);
        x.open(v, v);
        x.part();
        x.wish(v, v, v, v, v);
        x.closes(v, v, v);
        x.best(v, v);
        x.tell(v, v);
        x.judge(v);
        x.count(v);
        x.undo();
        x.blank();
        x.digest();
    }

    private static void refusalsBehindRefusals() {
        ReignLadders x = full();
        long before = x.digest();
        for (int again = 0; again < 20; again++) {
            Edge.is("reign()", x.reign(1, REIGN, 10, 0, 9), FULL);
            Edge.is("sky()", x.sky(0, 1, 0, 0, 0, 0), FULL);
            Edge.is("wish()", x.wish(0, 1, 1, 1, 0), FULL);
            Edge.is("letters()", x.letters(65), FULL);
            Edge.is("text()", x.text(0), STATE);
            Edge.is("doubt()", x.doubt(0, 9, 0), STATE);
            Edge.is("tell()", x.tell(10, 0), Edge.YEAR_UNKNOWN);
            Edge.is("number()", x.number(5, 59), OUTSIDE);
        }
        Edge.is("digest() behind them", x.digest(), before);
    }

    public static void main(String[] args) {
        Edge.holds(32, "OUTSIDE", EdgesOfTheWholeTest::sevenAreCounted);
        Edge.holds(32, "how many, from none to all", EdgesOfTheWholeTest::fromNoneToAllAreCounted);
        Edge.holds(32, "each by itself", EdgesOfTheWholeTest::eachIsCountedByItself);
        Edge.holds(33, "h is 293", EdgesOfTheWholeTest::digestOfNothing);
        Edge.holds(33, "as longs, wrapping", EdgesOfTheWholeTest::digestWraps);
        Edge.holds(33, "as longs, of numbers below 0", EdgesOfTheWholeTest::digestOfNumbersBelowNothing);
        Edge.holds(33, "of a SKY its three years (like ones, too)", EdgesOfTheWholeTest::likeYearsOfASkyAreDigested);
        Edge.holds(33, "of each TIE what tied() tells", EdgesOfTheWholeTest::digestOfEachSortOfTie);
        Edge.holds(33, "by EDITION 9", EdgesOfTheWholeTest::digestIsByEditionNine);
        Edge.holds(1, "at most 512 calls", EdgesOfTheWholeTest::theLastCallsAreAnswered);
        Edge.holds(33, "refusals of all calls change nothing", EdgesOfTheWholeTest::refusalsBehindRefusals);
        Edge.holds(33, "no call throws", EdgesOfTheWholeTest::noCallThrows);
        Edge.end();
    }
}
