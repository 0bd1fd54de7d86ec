import java.util.Arrays;

/** Promises 7 to 12, each sentence that names an edge: tie, sky, ring, letter, tied, undo. */
public final class EdgesOfTiesTest {
    private static final int NONE = Edge.NONE, UNKNOWN = Edge.UNKNOWN, OUTSIDE = Edge.OUTSIDE, STATE = Edge.STATE,
            FULL = Edge.FULL;
    private static final int FAR_OFF = Integer.MAX_VALUE;

    // ---- the objects that are asked

    private static ReignLadders rings(int many) {
        ReignLadders x = Worlds.three();
        for (int ring = 0; ring < many; ring++) {
            x.ring(ring % 3, 1, ring, 0);
        }
        return x;
    }

    private static ReignLadders skies(int many) {
        ReignLadders x = Worlds.three();
        for (int sky = 0; sky < many; sky++) {
            x.sky(sky, 1, 5, 6, 7, 0);
        }
        return x;
    }

    /** A TIE, a SKY, a RING and a LETTER, each at the ends of what may be told. */
    private static ReignLadders oneOfEachSort() {
        ReignLadders x = Worlds.three();
        x.tie(0, 99, 1, 1, 0, 9);
        x.sky(2, 1, -2000, 2000, 0, 0);
        x.ring(1, 99, 2000, 9);
        x.letter(2, 1, 0, 99, 0);
        return x;
    }

    // ---- what all four ways to tell a TIE have alike

    /** {a, x, b, y, slack, edition}, or as much of it as the call has. */
    private interface Teller {
        long tell(ReignLadders x, int... told);
    }

    private static final Teller TIE = (x, t) -> x.tie(t[0], t[1], t[2], t[3], t[4], t[5]);
    private static final Teller LETTER = (x, t) -> x.letter(t[0], t[1], t[2], t[3], t[4]);
    private static final Teller SKY = (x, t) -> x.sky(t[0], t[1], t[2], t[3], t[4], t[5]);
    private static final Teller RING = (x, t) -> x.ring(t[0], t[1], t[2], t[3]);

    /** One of the numbers told goes from least to most; the others stay. */
    private static void between(Teller teller, int[] told, int place, int least, int most, int refusal) {
        Edge.ends(Worlds::three, least, most, (x, value) -> teller.tell(x, Edge.with(told, place, value)), 0, 0,
                refusal);
    }

    private static void sameReignIsUnknown(Teller teller, int... told) {
        for (int reign = 0; reign < 3; reign++) {
            int[] same = Edge.with(Edge.with(told, 0, reign), 2, reign);
            Edge.refused(Worlds::three, Arrays.toString(same), x -> teller.tell(x, same), UNKNOWN);
        }
    }

    /** Each of the numbers told by itself is far off, in an object that has no room. */
    private static void refusedFirst(Edge.Maker full, Teller teller, int[] told, int from, int upTo, int refusal) {
        for (int place = from; place <= upTo; place++) {
            int[] changed = Edge.with(told, place, FAR_OFF);
            Edge.refused(full, Arrays.toString(changed), x -> teller.tell(x, changed), refusal);
        }
    }

    private static void eightAtMost(Teller teller, int... told) {
        Edge.taken(() -> rings(7), "an eighth", x -> teller.tell(x, told), 7);
        Edge.refused(() -> rings(8), "a ninth", x -> teller.tell(x, told), FULL);
        Edge.refused(() -> {
            ReignLadders x = Worlds.three();
            for (int tie = 0; tie < 8; tie++) {
                x.tie(0, 1, 1, 1, tie, 0);
            }
            return x;
        }, "a ninth behind TIES", x -> teller.tell(x, told), FULL);
        Edge.refused(() -> {
            ReignLadders x = skies(2);
            for (int tie = 2; tie < 8; tie++) {
                x.letter(0, 1, 1, tie, 0);
            }
            return x;
        }, "a ninth behind SKIES and LETTERS", x -> teller.tell(x, told), FULL);
    }

    // ---- promise 7

    private static final int[] A_TIE = {0, 1, 2, 1, 0, 0};

    private static void tieIsOfReigns() {
        between(TIE, new int[] {0, 1, 1, 1, 0, 0}, 0, 0, 2, UNKNOWN);
        between(TIE, new int[] {1, 1, 0, 1, 0, 0}, 2, 0, 2, UNKNOWN);
        Edge.ends(Worlds::ten, 0, 9, (x, a) -> x.tie(a, 1, 5, 1, 0, 0), 0, 0, UNKNOWN);
        Edge.ends(Worlds::ten, 0, 9, (x, b) -> x.tie(5, 1, b, 1, 0, 0), 0, 0, UNKNOWN);
    }

    private static void tieIsOfTwo() {
        sameReignIsUnknown(TIE, A_TIE);
    }

    private static void tieHasPlaces() {
        between(TIE, A_TIE, 1, 1, 99, OUTSIDE);
        between(TIE, A_TIE, 3, 1, 99, OUTSIDE);
    }

    private static void tieHasSlack() {
        between(TIE, A_TIE, 4, 0, 20, OUTSIDE);
    }

    private static void tieHasAnEdition() {
        between(TIE, A_TIE, 5, 0, 9, OUTSIDE);
    }

    private static void tiesAreEightAtMost() {
        eightAtMost(TIE, A_TIE);
    }

    private static void tieRefusesUnknownFirst() {
        refusedFirst(Worlds::three, TIE, Edge.with(A_TIE, 0, 3), 1, 5, UNKNOWN);
        refusedFirst(Worlds::three, TIE, Edge.with(A_TIE, 2, -1), 3, 5, UNKNOWN);
        refusedFirst(Worlds::three, TIE, Edge.with(A_TIE, 2, 0), 3, 5, UNKNOWN);
        refusedFirst(() -> rings(8), TIE, A_TIE, 0, 0, UNKNOWN);
        refusedFirst(() -> rings(8), TIE, A_TIE, 2, 2, UNKNOWN);
        Edge.refused(() -> rings(8), "the same", x -> x.tie(1, 1, 1, 1, 0, 0), UNKNOWN);
    }

    private static void tieRefusesOutsideAheadOfFull() {
        refusedFirst(() -> rings(8), TIE, A_TIE, 1, 1, OUTSIDE);
        refusedFirst(() -> rings(8), TIE, A_TIE, 3, 5, OUTSIDE);
    }

    // ---- promise 8

    private static final int[] A_SKY = {0, 1, 0, 0, 0, 0};

    private static void skyIsOfAReign() {
        between(SKY, A_SKY, 0, 0, 2, UNKNOWN);
        Edge.ends(Worlds::ten, 0, 9, (x, a) -> x.sky(a, 1, 0, 0, 0, 0), 0, 0, UNKNOWN);
    }

    private static void skyHasAPlace() {
        between(SKY, A_SKY, 1, 1, 99, OUTSIDE);
    }

    private static void skyHasYears() {
        between(SKY, A_SKY, 2, -2000, 2000, OUTSIDE);
        between(SKY, A_SKY, 3, -2000, 2000, OUTSIDE);
        between(SKY, A_SKY, 4, -2000, 2000, OUTSIDE);
    }

    private static void skyHasAnEdition() {
        between(SKY, A_SKY, 5, 0, 9, OUTSIDE);
    }

    private static void skiesAmongEightTies() {
        eightAtMost(SKY, A_SKY);
    }

    private static void skiesAreTwoAtMost() {
        Edge.taken(() -> skies(0), "a first", x -> SKY.tell(x, A_SKY), 0);
        Edge.taken(() -> skies(1), "a second", x -> SKY.tell(x, A_SKY), 1);
        Edge.refused(() -> skies(2), "a third", x -> SKY.tell(x, A_SKY), FULL);
        Edge.refused(() -> {
            ReignLadders x = skies(1);
            x.ring(0, 1, 0, 0);
            x.sky(0, 1, 5, 6, 7, 9);
            x.ring(0, 1, 0, 0);
            return x;
        }, "a third among others", x -> SKY.tell(x, A_SKY), FULL);
        Edge.taken(() -> skies(2), "a RING behind two", x -> x.ring(0, 1, 0, 0), 2);
        Edge.taken(() -> skies(2), "a TIE behind two", x -> x.tie(0, 1, 1, 1, 0, 0), 2);
        Edge.taken(() -> skies(2), "a LETTER behind two", x -> x.letter(0, 1, 1, 1, 0), 2);
    }

    private static void skyRefusesUnknownFirst() {
        refusedFirst(Worlds::three, SKY, Edge.with(A_SKY, 0, 3), 1, 5, UNKNOWN);
        refusedFirst(() -> skies(2), SKY, A_SKY, 0, 0, UNKNOWN);
        refusedFirst(() -> rings(8), SKY, A_SKY, 0, 0, UNKNOWN);
    }

    private static void skyRefusesOutsideAheadOfFull() {
        refusedFirst(() -> skies(2), SKY, A_SKY, 1, 5, OUTSIDE);
        refusedFirst(() -> rings(8), SKY, A_SKY, 1, 5, OUTSIDE);
    }

    /** What is asked of a SKY: from where to where its REIGN may begin, and in how many ways it is judged well. */
    private static void skyOf(int p, int q, int r, int... years) {
        ReignLadders x = Worlds.three();
        x.sky(0, 1, p, q, r, 0);
        String which = p + ", " + q + ", " + r;
        Edge.is(which + ": the least", x.span(0, 0, 0, 0), years[0]);
        Edge.is(which + ": the greatest", x.span(0, 0, 0, 1), years[years.length - 1]);
        for (int year = -4; year <= 4; year++) {
            x.tell(0, year);
            Edge.is(which + ": in " + year, x.judge(0), Edge.isOneOf(years, year) ? NONE : 200);
        }
    }

    private static void likeYearsAreOne() {
        skyOf(1, 1, 1, 1);
        skyOf(1, 1, 3, 1, 3);
        skyOf(1, 3, 1, 1, 3);
        skyOf(3, 1, 1, 1, 3);
        skyOf(3, -3, 0, -3, 0, 3);
        ReignLadders x = Worlds.three();
        x.sky(0, 1, 7, 7, 7, 0);
        x.ring(0, 1, 8, 0);
        Edge.is("the fewest to doubt", x.doubt(0, 0, 0), 1);
        Edge.is("like years make no more rivals", x.doubt(0, 0, 1), 1);
    }

    // ---- promise 9

    private static final int[] A_RING = {0, 1, 0, 0};

    private static void ringIsOfAReign() {
        between(RING, A_RING, 0, 0, 2, UNKNOWN);
        Edge.ends(Worlds::ten, 0, 9, (x, a) -> x.ring(a, 1, 0, 0), 0, 0, UNKNOWN);
    }

    private static void ringHasAPlace() {
        between(RING, A_RING, 1, 1, 99, OUTSIDE);
    }

    private static void ringHasAYear() {
        between(RING, A_RING, 2, -2000, 2000, OUTSIDE);
    }

    private static void ringHasAnEdition() {
        between(RING, A_RING, 3, 0, 9, OUTSIDE);
    }

    private static void ringsAmongEightTies() {
        eightAtMost(RING, A_RING);
    }

    private static void ringRefusesUnknownFirst() {
        refusedFirst(Worlds::three, RING, Edge.with(A_RING, 0, 3), 1, 3, UNKNOWN);
        refusedFirst(() -> rings(8), RING, A_RING, 0, 0, UNKNOWN);
    }

    private static void ringRefusesOutsideAheadOfFull() {
        refusedFirst(() -> rings(8), RING, A_RING, 1, 3, OUTSIDE);
    }

    // ---- promise 10

    private static final int[] A_LETTER = {0, 1, 2, 1, 0};

    private static void letterIsOfReigns() {
        between(LETTER, new int[] {0, 1, 1, 1, 0}, 0, 0, 2, UNKNOWN);
        between(LETTER, new int[] {1, 1, 0, 1, 0}, 2, 0, 2, UNKNOWN);
        Edge.ends(Worlds::ten, 0, 9, (x, a) -> x.letter(a, 1, 5, 1, 0), 0, 0, UNKNOWN);
        Edge.ends(Worlds::ten, 0, 9, (x, b) -> x.letter(5, 1, b, 1, 0), 0, 0, UNKNOWN);
    }

    private static void letterIsOfTwo() {
        sameReignIsUnknown(LETTER, A_LETTER);
    }

    private static void letterHasPlaces() {
        between(LETTER, A_LETTER, 1, 1, 99, OUTSIDE);
        between(LETTER, A_LETTER, 3, 1, 99, OUTSIDE);
    }

    private static void letterHasAnEdition() {
        between(LETTER, A_LETTER, 4, 0, 9, OUTSIDE);
    }

    private static void lettersAmongEightTies() {
        eightAtMost(LETTER, A_LETTER);
    }

    private static void letterRefusesUnknownFirst() {
        refusedFirst(Worlds::three, LETTER, Edge.with(A_LETTER, 0, 3), 1, 4, UNKNOWN);
        refusedFirst(Worlds::three, LETTER, Edge.with(A_LETTER, 2, -1), 3, 4, UNKNOWN);
        refusedFirst(Worlds::three, LETTER, Edge.with(A_LETTER, 2, 0), 3, 4, UNKNOWN);
        refusedFirst(() -> rings(8), LETTER, A_LETTER, 0, 0, UNKNOWN);
        refusedFirst(() -> rings(8), LETTER, A_LETTER, 2, 2, UNKNOWN);
        Edge.refused(() -> rings(8), "the same", x -> x.letter(1, 1, 1, 1, 0), UNKNOWN);
    }

    private static void letterRefusesOutsideAheadOfFull() {
        refusedFirst(() -> rings(8), LETTER, A_LETTER, 1, 1, OUTSIDE);
        refusedFirst(() -> rings(8), LETTER, A_LETTER, 3, 4, OUTSIDE);
    }

    // ---- promise 11

    private static void tiedKnowsTheNumbersOfTies() {
        Edge.ends(() -> rings(1), 0, 0, (x, tie) -> x.tied(tie, 0), 2, 2, UNKNOWN);
        Edge.ends(() -> rings(8), 0, 7, (x, tie) -> x.tied(tie, 1), 0, 1, UNKNOWN);
        Edge.refused(Worlds::three, "the first of none", x -> x.tied(0, 0), UNKNOWN);
        Edge.refused(() -> {
            ReignLadders x = rings(2);
            x.undo();
            return x;
        }, "one that is gone", x -> x.tied(1, 0), UNKNOWN);
    }

    private static void tiedTellsSevenThings() {
        Edge.ends(EdgesOfTiesTest::oneOfEachSort, 0, 6, (x, what) -> x.tied(2, what), 2, 9, OUTSIDE);
    }

    private static void tiedRefusesUnknownFirst() {
        Edge.refused(EdgesOfTiesTest::oneOfEachSort, "tied(4, 7)", x -> x.tied(4, 7), UNKNOWN);
        Edge.refused(EdgesOfTiesTest::oneOfEachSort, "tied(-1, -1)", x -> x.tied(-1, -1), UNKNOWN);
    }

    private static void whatATieHasNotIsNone() {
        ReignLadders x = oneOfEachSort();
        int[][] want = {{0, 0, 99, 1, 1, 0, 9}, {1, 2, 1, NONE, NONE, NONE, 0}, {2, 1, 99, NONE, NONE, NONE, 9},
            {3, 2, 1, 0, 99, NONE, 0}};
        for (int tie = 0; tie < 4; tie++) {
            for (int what = 0; what <= 6; what++) {
                Edge.is("tied(" + tie + ", " + what + ")", x.tied(tie, what), want[tie][what]);
            }
        }
    }

    // ---- promise 12

    private static void noneIsUndone() {
        Edge.refused(Worlds::three, "of none ever", ReignLadders::undo, STATE);
        Edge.refused(() -> {
            ReignLadders x = rings(1);
            x.undo();
            return x;
        }, "of none left", ReignLadders::undo, STATE);
    }

    private static void allAreUndone() {
        ReignLadders x = rings(8);
        for (int left = 7; left >= 0; left--) {
            Edge.is("down to " + left, x.undo(), left);
            Edge.is("count(1)", x.count(1), left);
        }
    }

    private static void theLastIsGone() {
        ReignLadders x = oneOfEachSort();
        x.undo();
        Edge.is("the last", x.tied(3, 0), UNKNOWN);
        Edge.is("the one ahead of it", x.tied(2, 0), 2);
        ReignLadders y = rings(8);
        y.undo();
        Edge.is("an eighth again", y.ring(0, 1, 0, 0), 7);
        Edge.is("a ninth", y.ring(0, 1, 0, 0), FULL);
        ReignLadders z = skies(2);
        z.undo();
        Edge.is("a second SKY again", z.sky(0, 1, 0, 0, 0, 0), 1);
        Edge.is("a third", z.sky(0, 1, 0, 0, 0, 0), FULL);
    }

    private static void onlyASkyFreesASky() {
        for (int sort : new int[] {0, 2, 3}) {
            ReignLadders x = skies(2);
            switch (sort) {
                case 0: TIE.tell(x, A_TIE); break;
                case 2: RING.tell(x, A_RING); break;
                default: LETTER.tell(x, A_LETTER); break;
            }
            x.undo();
            Edge.is("a third when sort " + sort + " is gone", x.sky(0, 1, 0, 0, 0, 0), FULL);
            x.undo();
            x.undo();
            Edge.is("a first when both are gone", x.sky(0, 1, 0, 0, 0, 0), 0);
            Edge.is("a second", x.sky(0, 1, 0, 0, 0, 0), 1);
            Edge.is("a third", x.sky(0, 1, 0, 0, 0, 0), FULL);
        }
    }

    private static void whatIsGoneHoldsNothing() {
        ReignLadders x = Worlds.three();
        x.sky(0, 1, 5, 6, 7, 0);
        x.sky(1, 1, 8, 9, 9, 0);
        Edge.is("a REIGN with a SKY", x.span(0, 0, 1, 1), 9);
        x.undo();
        Edge.is("a REIGN without its SKY", x.span(0, 0, 1, 1), 2000);
        Edge.is("a REIGN with another SKY", x.span(0, 0, 0, 1), 7);
        x.undo();
        Edge.is("that REIGN without its SKY", x.span(0, 0, 0, 1), 2000);
        Edge.is("and no other is held", x.span(0, 0, 2, 0), -2000);
    }

    public static void main(String[] args) {
        Edge.holds(7, "UNKNOWN: a, b", EdgesOfTiesTest::tieIsOfReigns);
        Edge.holds(7, "UNKNOWN: or they are the same", EdgesOfTiesTest::tieIsOfTwo);
        Edge.holds(7, "OUTSIDE: x, y (1 to 99)", EdgesOfTiesTest::tieHasPlaces);
        Edge.holds(7, "OUTSIDE: slack (0 to 20)", EdgesOfTiesTest::tieHasSlack);
        Edge.holds(7, "OUTSIDE: edition", EdgesOfTiesTest::tieHasAnEdition);
        Edge.holds(7, "FULL: 8 at most", EdgesOfTiesTest::tiesAreEightAtMost);
        Edge.holds(7, "UNKNOWN ahead of OUTSIDE and FULL", EdgesOfTiesTest::tieRefusesUnknownFirst);
        Edge.holds(7, "OUTSIDE ahead of FULL", EdgesOfTiesTest::tieRefusesOutsideAheadOfFull);
        Edge.holds(8, "UNKNOWN: a", EdgesOfTiesTest::skyIsOfAReign);
        Edge.holds(8, "OUTSIDE: x (1 to 99)", EdgesOfTiesTest::skyHasAPlace);
        Edge.holds(8, "OUTSIDE: p, q, r (-2000 to 2000)", EdgesOfTiesTest::skyHasYears);
        Edge.holds(8, "OUTSIDE: edition", EdgesOfTiesTest::skyHasAnEdition);
        Edge.holds(8, "FULL: 8 at most", EdgesOfTiesTest::skiesAmongEightTies);
        Edge.holds(8, "FULL (also of these): 2 at most", EdgesOfTiesTest::skiesAreTwoAtMost);
        Edge.holds(8, "UNKNOWN ahead of OUTSIDE and FULL", EdgesOfTiesTest::skyRefusesUnknownFirst);
        Edge.holds(8, "OUTSIDE ahead of FULL", EdgesOfTiesTest::skyRefusesOutsideAheadOfFull);
        Edge.holds(8, "those that are like are one", EdgesOfTiesTest::likeYearsAreOne);
        Edge.holds(9, "UNKNOWN: a", EdgesOfTiesTest::ringIsOfAReign);
        Edge.holds(9, "OUTSIDE: x (1 to 99)", EdgesOfTiesTest::ringHasAPlace);
        Edge.holds(9, "OUTSIDE: year (-2000 to 2000)", EdgesOfTiesTest::ringHasAYear);
        Edge.holds(9, "OUTSIDE: edition", EdgesOfTiesTest::ringHasAnEdition);
        Edge.holds(9, "FULL: 8 at most", EdgesOfTiesTest::ringsAmongEightTies);
        Edge.holds(9, "UNKNOWN ahead of OUTSIDE and FULL", EdgesOfTiesTest::ringRefusesUnknownFirst);
        Edge.holds(9, "OUTSIDE ahead of FULL", EdgesOfTiesTest::ringRefusesOutsideAheadOfFull);
        Edge.holds(10, "UNKNOWN: a, b", EdgesOfTiesTest::letterIsOfReigns);
        Edge.holds(10, "UNKNOWN: or they are the same", EdgesOfTiesTest::letterIsOfTwo);
        Edge.holds(10, "OUTSIDE: x, y (1 to 99)", EdgesOfTiesTest::letterHasPlaces);
        Edge.holds(10, "OUTSIDE: edition", EdgesOfTiesTest::letterHasAnEdition);
        Edge.holds(10, "FULL: 8 at most", EdgesOfTiesTest::lettersAmongEightTies);
        Edge.holds(10, "UNKNOWN ahead of OUTSIDE and FULL", EdgesOfTiesTest::letterRefusesUnknownFirst);
        Edge.holds(10, "OUTSIDE ahead of FULL", EdgesOfTiesTest::letterRefusesOutsideAheadOfFull);
        Edge.holds(11, "UNKNOWN", EdgesOfTiesTest::tiedKnowsTheNumbersOfTies);
        Edge.holds(11, "OUTSIDE", EdgesOfTiesTest::tiedTellsSevenThings);
        Edge.holds(11, "UNKNOWN ahead of OUTSIDE", EdgesOfTiesTest::tiedRefusesUnknownFirst);
        Edge.holds(11, "NONE: it has none such", EdgesOfTiesTest::whatATieHasNotIsNone);
        Edge.holds(12, "STATE: there is none", EdgesOfTiesTest::noneIsUndone);
        Edge.holds(12, "how many are left", EdgesOfTiesTest::allAreUndone);
        Edge.holds(12, "the last TIE is gone", EdgesOfTiesTest::theLastIsGone);
        Edge.holds(12, "is gone: its place, too", EdgesOfTiesTest::onlyASkyFreesASky);
        Edge.holds(12, "is gone: what it held, too", EdgesOfTiesTest::whatIsGoneHoldsNothing);
        Edge.end();
    }
}
