import java.util.Arrays;

/** Promises 1 to 6, each sentence that names an edge: a new object, reign, about, as, lasts, number. */
public final class EdgesOfListsTest {
    private static final int NONE = Edge.NONE, UNKNOWN = Edge.UNKNOWN, OUTSIDE = Edge.OUTSIDE, STATE = Edge.STATE,
            FULL = Edge.FULL;
    private static final int REIGN = 0, BESIDE = 1, LEFT = 2, MISREAD = 3, RULED = 4, BROKEN = 5, DOUBLED = 6;

    // ---- the objects that are asked

    /** A REIGN of 10 years in land 0. */
    private static ReignLadders one() {
        ReignLadders x = new ReignLadders();
        x.reign(0, REIGN, 10, 0, 0);
        return x;
    }

    /** Behind a REIGN in land 0 one of a kind. */
    private static ReignLadders oneOf(int kind, int n, int m) {
        ReignLadders x = one();
        x.reign(0, kind, n, m, 0);
        return x;
    }

    private static ReignLadders ten() {
        ReignLadders x = new ReignLadders();
        for (int reign = 0; reign < 10; reign++) {
            x.reign(0, REIGN, 10, 0, 3);
        }
        return x;
    }

    private static ReignLadders reignsOf(int... kinds) {
        ReignLadders x = new ReignLadders();
        for (int kind : kinds) {
            x.reign(0, kind, 10, 4, 0);
        }
        return x;
    }

    /** Land 0: a REIGN from edition 2, one from edition 5. */
    private static ReignLadders editionsTwoAndFive() {
        ReignLadders x = new ReignLadders();
        x.reign(0, REIGN, 10, 0, 2);
        x.reign(0, REIGN, 10, 0, 5);
        return x;
    }

    // ---- promise 1

    private static void newHasNoReigns() {
        ReignLadders x = new ReignLadders();
        Edge.is("count(0)", x.count(0), 0);
        Edge.refused(ReignLadders::new, "about(0, 0)", y -> y.about(0, 0), UNKNOWN);
        Edge.refused(ReignLadders::new, "as(0, 0)", y -> y.as(0, 0), UNKNOWN);
        Edge.refused(ReignLadders::new, "lasts(0, 0, 0)", y -> y.lasts(0, 0, 0), UNKNOWN);
        Edge.refused(ReignLadders::new, "number(0, 1)", y -> y.number(0, 1), UNKNOWN);
        Edge.refused(ReignLadders::new, "tie(0, 1, 1, 1, 0, 0)", y -> y.tie(0, 1, 1, 1, 0, 0), UNKNOWN);
        Edge.refused(ReignLadders::new, "sky(0, 1, 0, 0, 0, 0)", y -> y.sky(0, 1, 0, 0, 0, 0), UNKNOWN);
        Edge.refused(ReignLadders::new, "ring(0, 1, 0, 0)", y -> y.ring(0, 1, 0, 0), UNKNOWN);
        Edge.refused(ReignLadders::new, "letter(0, 1, 1, 1, 0)", y -> y.letter(0, 1, 1, 1, 0), UNKNOWN);
        Edge.refused(ReignLadders::new, "wish(0, 1, 1, 1, 0)", y -> y.wish(0, 1, 1, 1, 0), UNKNOWN);
        Edge.refused(ReignLadders::new, "counts(0, 0)", y -> y.counts(0, 0), UNKNOWN);
        Edge.refused(ReignLadders::new, "span(0, 9, 0, 0)", y -> y.span(0, 9, 0, 0), Edge.YEAR_UNKNOWN);
        Edge.refused(ReignLadders::new, "held(0, 9, 0, 0)", y -> y.held(0, 9, 0, 0), UNKNOWN);
        Edge.refused(ReignLadders::new, "tell(0, 0)", y -> y.tell(0, 0), Edge.YEAR_UNKNOWN);
    }

    private static void newHasNoTies() {
        ReignLadders x = new ReignLadders();
        Edge.is("count(1)", x.count(1), 0);
        Edge.refused(ReignLadders::new, "tied(0, 0)", y -> y.tied(0, 0), UNKNOWN);
        Edge.refused(ReignLadders::new, "believes(0, 0)", y -> y.believes(0, 0), UNKNOWN);
        Edge.refused(ReignLadders::new, "undo()", ReignLadders::undo, STATE);
    }

    private static void newHasNothingElse() {
        ReignLadders x = new ReignLadders();
        for (int what = 2; what <= 6; what++) {
            Edge.is("count(" + what + ")", x.count(what), 0);
        }
        Edge.is("fault()", x.fault(), 0);
        Edge.is("blank()", x.blank(), 0);
        Edge.is("part()", x.part(), NONE);
        for (int school = 0; school <= 1; school++) {
            for (int edition = 0; edition <= 9; edition++) {
                Edge.is("can(" + school + ", " + edition + ")", x.can(school, edition), 1);
                Edge.is("floats(" + school + ", " + edition + ")", x.floats(school, edition), 0);
                Edge.is("open(" + school + ", " + edition + ")", x.open(school, edition), 0);
                Edge.is("best(" + school + ", " + edition + ")", x.best(school, edition), NONE);
            }
            Edge.is("judge(" + school + ")", x.judge(school), NONE);
            Edge.is("doubt(" + school + ", 9, 0)", x.doubt(school, 9, 0), 0);
            Edge.is("doubt(" + school + ", 9, 1)", x.doubt(school, 9, 1), 0);
            int its = school;
            Edge.refused(ReignLadders::new, "strike(" + school + ")", y -> y.strike(its), STATE);
            Edge.refused(ReignLadders::new, "text(" + school + ")", y -> y.text(its), STATE);
            Edge.refused(ReignLadders::new, "closes(" + school + ", 9, 0)", y -> y.closes(its, 9, 0), UNKNOWN);
        }
    }

    // ---- promise 2

    private static void landsAreFive() {
        Edge.ends(ReignLadders::new, 0, 4, (x, land) -> x.reign(land, REIGN, 10, 0, 0), 0, 0, OUTSIDE);
    }

    private static void kindsAreSeven() {
        Edge.ends(EdgesOfListsTest::one, 0, 6, (x, kind) -> x.reign(0, kind, 10, 0, 0), 1, 1, OUTSIDE);
    }

    private static void numbersAreOneToSixty() {
        for (int kind = REIGN; kind <= DOUBLED; kind++) {
            int its = kind;
            Edge.ends(EdgesOfListsTest::one, 1, 60, (x, n) -> x.reign(0, its, n, 0, 0), 1, 1, OUTSIDE);
        }
    }

    private static void othersAreNoneToSixty() {
        for (int kind : new int[] {REIGN, LEFT, MISREAD, RULED, BROKEN, DOUBLED}) {
            Edge.ends(EdgesOfListsTest::one, 0, 60, (x, m) -> x.reign(0, kind, 1, m, 0), 1, 1, OUTSIDE);
        }
    }

    private static void othersOfBesideAreTheirNumberAtMost() {
        for (int n : new int[] {1, 2, 30, 59, 60}) {
            Edge.ends(EdgesOfListsTest::one, 0, n, (x, m) -> x.reign(0, BESIDE, n, m, 0), 1, 1, OUTSIDE);
        }
    }

    private static void editionsAreTen() {
        Edge.ends(ReignLadders::new, 0, 9, (x, edition) -> x.reign(0, REIGN, 10, 0, edition), 0, 0, OUTSIDE);
    }

    private static void editionsAreNotAheadOfThatOfTheOneAhead() {
        for (int ahead = 0; ahead <= 9; ahead++) {
            int first = ahead;
            Edge.ends(() -> {
                ReignLadders x = new ReignLadders();
                x.reign(0, REIGN, 10, 0, first);
                return x;
            }, first, 9, (x, edition) -> x.reign(0, REIGN, 10, 0, edition), 1, 1, OUTSIDE);
        }
        Edge.ends(EdgesOfListsTest::editionsTwoAndFive, 5, 9, (x, edition) -> x.reign(0, REIGN, 10, 0, edition), 2, 2,
                OUTSIDE);
        Edge.taken(EdgesOfListsTest::editionsTwoAndFive, "another LAND", x -> x.reign(1, REIGN, 10, 0, 0), 2);
    }

    private static void besideIsNotTheFirst() {
        for (int land = 0; land <= 4; land++) {
            int its = land;
            Edge.Maker others = () -> {
                ReignLadders x = new ReignLadders();
                for (int other = 0; other <= 4; other++) {
                    if (other != its) {
                        x.reign(other, REIGN, 10, 0, 0);
                    }
                }
                return x;
            };
            Edge.refused(ReignLadders::new, "land " + land, x -> x.reign(its, BESIDE, 10, 4, 0), STATE);
            Edge.refused(others, "land " + land + ", the only empty one", x -> x.reign(its, BESIDE, 10, 4, 0), STATE);
        }
        Edge.taken(EdgesOfListsTest::one, "as the second", x -> x.reign(0, BESIDE, 10, 4, 0), 1);
        for (int kind : new int[] {REIGN, LEFT, MISREAD, RULED, BROKEN, DOUBLED}) {
            Edge.taken(ReignLadders::new, "kind " + kind + " as the first", x -> x.reign(0, kind, 10, 4, 0), 0);
        }
    }

    private static void reignsAreTenAtMost() {
        ReignLadders x = new ReignLadders();
        for (int reign = 0; reign < 10; reign++) {
            Edge.is("REIGN " + reign + " of one LAND", x.reign(2, REIGN, 10, 0, 0), reign);
        }
        ReignLadders y = new ReignLadders();
        for (int reign = 0; reign < 10; reign++) {
            Edge.is("REIGN " + reign + " of five LANDS", y.reign(reign % 5, REIGN, 10, 0, 0), reign);
        }
        for (int land = 0; land <= 4; land++) {
            int its = land;
            Edge.refused(EdgesOfListsTest::ten, "an eleventh, land " + land, z -> z.reign(its, REIGN, 10, 0, 3), FULL);
        }
        for (int kind = REIGN; kind <= DOUBLED; kind++) {
            int its = kind;
            Edge.refused(EdgesOfListsTest::ten, "an eleventh, kind " + kind, z -> z.reign(0, its, 10, 0, 3), FULL);
        }
    }

    private static void misreadOnesAreThreeAtMost() {
        int[][] threes = {{MISREAD, MISREAD, MISREAD}, {DOUBLED, DOUBLED, DOUBLED}, {MISREAD, DOUBLED, MISREAD},
            {DOUBLED, MISREAD, DOUBLED}};
        for (int[] three : threes) {
            Edge.Maker two = () -> reignsOf(three[0], three[1]);
            Edge.Maker all = () -> reignsOf(three);
            Edge.taken(two, "a third", x -> x.reign(0, three[2], 10, 4, 0), 2);
            Edge.refused(all, "a fourth, MISREAD", x -> x.reign(0, MISREAD, 10, 4, 0), FULL);
            Edge.refused(all, "a fourth, DOUBLED", x -> x.reign(1, DOUBLED, 10, 4, 0), FULL);
            for (int kind : new int[] {REIGN, BESIDE, LEFT, RULED, BROKEN}) {
                Edge.taken(all, "kind " + kind, x -> x.reign(0, kind, 10, 4, 0), 3);
            }
        }
    }

    private static void othersAreNoMisreadOnes() {
        int[] kinds = {REIGN, BESIDE, LEFT, RULED, BROKEN, REIGN, MISREAD, DOUBLED, MISREAD};
        Edge.is("three behind six others", reignsOf(kinds).count(0), 9);
        Edge.refused(() -> reignsOf(kinds), "a fourth behind six others", x -> x.reign(0, MISREAD, 10, 4, 0), FULL);
        Edge.taken(() -> reignsOf(kinds), "a tenth", x -> x.reign(0, LEFT, 10, 4, 0), 9);
    }

    /** {land, kind, n, m, edition}, each OUTSIDE for one cause in an object with a LAND 0 from edition 3 on. */
    private static final int[][] OUTSIDE_REIGNS = {{-1, 0, 10, 0, 9}, {5, 0, 10, 0, 9}, {0, -1, 10, 0, 9},
        {0, 7, 10, 0, 9}, {0, 0, 0, 0, 9}, {0, 0, 61, 0, 9}, {0, 0, 10, -1, 9}, {0, 0, 10, 61, 9}, {0, 1, 10, 11, 9},
        {0, 0, 10, 0, -1}, {0, 0, 10, 0, 10}, {0, 0, 10, 0, 2}};

    private static void outsideIsAheadOfFullOfReigns() {
        for (int[] o : OUTSIDE_REIGNS) {
            Edge.refused(EdgesOfListsTest::ten, "reign " + Arrays.toString(o),
                    x -> x.reign(o[0], o[1], o[2], o[3], o[4]), OUTSIDE);
        }
    }

    private static void outsideIsAheadOfFullOfMisreadOnes() {
        Edge.Maker three = () -> reignsOf(MISREAD, DOUBLED, MISREAD);
        for (int kind : new int[] {MISREAD, DOUBLED}) {
            Edge.refused(three, "land", x -> x.reign(5, kind, 10, 0, 0), OUTSIDE);
            Edge.refused(three, "n", x -> x.reign(0, kind, 61, 0, 0), OUTSIDE);
            Edge.refused(three, "m", x -> x.reign(0, kind, 10, 61, 0), OUTSIDE);
            Edge.refused(three, "edition", x -> x.reign(0, kind, 10, 0, 10), OUTSIDE);
        }
    }

    private static void outsideIsAheadOfStateOfReigns() {
        int[][] besides = {{-1, 10, 0, 0}, {5, 10, 0, 0}, {1, 0, 0, 0}, {1, 61, 0, 0}, {1, 10, -1, 0}, {1, 10, 11, 0},
            {1, 10, 61, 0}, {1, 10, 0, -1}, {1, 10, 0, 10}};
        for (int[] b : besides) {
            Edge.refused(EdgesOfListsTest::one, "BESIDE " + Arrays.toString(b),
                    x -> x.reign(b[0], BESIDE, b[1], b[2], b[3]), OUTSIDE);
        }
    }

    private static void stateIsAheadOfFullOfReigns() {
        Edge.refused(EdgesOfListsTest::ten, "BESIDE as the first", x -> x.reign(1, BESIDE, 10, 4, 0), STATE);
    }

    // ---- promise 3

    private static void aboutKnowsTheNumbersOfReigns() {
        Edge.ends(EdgesOfListsTest::one, 0, 0, (x, reign) -> x.about(reign, 2), 10, 10, UNKNOWN);
        Edge.ends(EdgesOfListsTest::ten, 0, 9, (x, reign) -> x.about(reign, 5), NONE, 8, UNKNOWN);
    }

    private static void aboutTellsSixThings() {
        Edge.ends(EdgesOfListsTest::editionsTwoAndFive, 0, 5, (x, what) -> x.about(1, what), 0, 0, OUTSIDE);
    }

    private static void aboutRefusesUnknownFirst() {
        Edge.refused(EdgesOfListsTest::one, "about(1, 6)", x -> x.about(1, 6), UNKNOWN);
        Edge.refused(EdgesOfListsTest::one, "about(-1, -1)", x -> x.about(-1, -1), UNKNOWN);
    }

    private static void noneIsAheadOfTheFirst() {
        ReignLadders x = new ReignLadders();
        for (int reign = 0; reign < 5; reign++) {
            x.reign(reign, REIGN, 10, 0, 0);
            Edge.is("ahead of the first of LAND " + reign, x.about(reign, 5), NONE);
        }
        x.reign(3, REIGN, 10, 0, 0);
        Edge.is("ahead of the second of LAND 3", x.about(5, 5), 3);
    }

    private static void aboutTellsTheEdges() {
        ReignLadders x = new ReignLadders();
        x.reign(4, DOUBLED, 60, 60, 9);
        x.reign(0, REIGN, 1, 0, 0);
        int[][] want = {{4, 6, 60, 60, 9, NONE}, {0, 0, 1, 0, 0, NONE}};
        for (int reign = 0; reign < 2; reign++) {
            for (int what = 0; what <= 5; what++) {
                Edge.is("about(" + reign + ", " + what + ")", x.about(reign, what), want[reign][what]);
            }
        }
    }

    // ---- promise 4

    private static void asKnowsTheNumbersOfReigns() {
        Edge.ends(EdgesOfListsTest::one, 0, 0, (x, reign) -> x.as(reign, 0), 0, 0, UNKNOWN);
        Edge.ends(EdgesOfListsTest::ten, 0, 9, (x, reign) -> x.as(reign, 0), 0, 9, UNKNOWN);
    }

    private static void asKnowsSevenKinds() {
        Edge.ends(() -> oneOf(DOUBLED, 10, 0), 0, 6, (x, kind) -> x.as(1, kind), 1, 1, OUTSIDE);
    }

    private static void asRefusesUnknownFirst() {
        Edge.refused(EdgesOfListsTest::one, "as(1, 7)", x -> x.as(1, 7), UNKNOWN);
        Edge.refused(EdgesOfListsTest::one, "as(-1, -1)", x -> x.as(-1, -1), UNKNOWN);
    }

    private static void whatIsNoneSuchIsNone() {
        for (int own = REIGN; own <= DOUBLED; own++) {
            ReignLadders x = oneOf(own, 10, 4);
            for (int kind = REIGN; kind <= DOUBLED; kind++) {
                boolean such = kind == REIGN || kind == own || own == DOUBLED && kind == MISREAD;
                Edge.is("kind " + own + " as " + kind, x.as(1, kind), such ? 1 : NONE);
            }
        }
    }

    // ---- promise 5

    private static void lastsKnowsTheNumbersOfReigns() {
        Edge.ends(EdgesOfListsTest::one, 0, 0, (x, reign) -> x.lasts(reign, 0, 0), 10, 10, UNKNOWN);
        Edge.ends(EdgesOfListsTest::ten, 0, 9, (x, reign) -> x.lasts(reign, 0, 0), 10, 10, UNKNOWN);
    }

    private static void countsAreTwo() {
        Edge.ends(EdgesOfListsTest::one, 0, 1, (x, count) -> x.lasts(0, count, 0), 10, 9, OUTSIDE);
        Edge.ends(EdgesOfListsTest::one, 0, 1, (x, count) -> x.lasts(0, count, 1), 10, 9, OUTSIDE);
        Edge.ends(EdgesOfListsTest::one, 0, 1, (x, count) -> x.lasts(0, count, 2), 1, 1, OUTSIDE);
    }

    private static void lastsTellsThreeThings() {
        Edge.ends(() -> oneOf(LEFT, 10, 0), 0, 2, (x, which) -> x.lasts(1, 0, which), 0, 11, OUTSIDE);
        Edge.ends(() -> oneOf(LEFT, 10, 0), 0, 2, (x, which) -> x.lasts(1, 1, which), 0, 10, OUTSIDE);
    }

    private static void lastsRefusesUnknownFirst() {
        Edge.refused(EdgesOfListsTest::one, "lasts(1, 2, 0)", x -> x.lasts(1, 2, 0), UNKNOWN);
        Edge.refused(EdgesOfListsTest::one, "lasts(1, 0, 3)", x -> x.lasts(1, 0, 3), UNKNOWN);
        Edge.refused(EdgesOfListsTest::one, "lasts(-1, -1, -1)", x -> x.lasts(-1, -1, -1), UNKNOWN);
    }

    /** What lasts() tells of a kind for COUNT 0 and for COUNT 1: least, greatest, how many. */
    private static void lengths(int kind, int n, int m, int... want) {
        ReignLadders x = oneOf(kind, n, m);
        for (int i = 0; i < 6; i++) {
            Edge.is("kind " + kind + ", n " + n + ", m " + m + ", lasts(1, " + i / 3 + ", " + i % 3 + ")",
                    x.lasts(1, i / 3, i % 3), want[i]);
        }
    }

    private static void aReignLastsItsNumberLessCount() {
        for (int kind : new int[] {REIGN, BESIDE, RULED}) {
            lengths(kind, 1, 0, 1, 1, 1, 0, 0, 1);
            lengths(kind, 1, 1, 1, 1, 1, 0, 0, 1);
            lengths(kind, 60, 0, 60, 60, 1, 59, 59, 1);
            lengths(kind, 60, 60, 60, 60, 1, 59, 59, 1);
        }
    }

    private static void leftLastsFromNothing() {
        lengths(LEFT, 1, 0, 0, 1, 2, 0, 0, 1);
        lengths(LEFT, 2, 60, 0, 2, 3, 0, 1, 2);
        lengths(LEFT, 60, 60, 0, 60, 61, 0, 59, 60);
    }

    private static void misreadLastsNothingAtLeast() {
        lengths(MISREAD, 10, 0, 0, 10, 2, 0, 9, 2);
        lengths(MISREAD, 10, 1, 1, 10, 2, 0, 9, 2);
        lengths(MISREAD, 1, 60, 1, 60, 2, 0, 59, 2);
        lengths(MISREAD, 60, 1, 1, 60, 2, 0, 59, 2);
    }

    private static void likeLengthsAreOne() {
        lengths(MISREAD, 1, 1, 1, 1, 1, 0, 0, 1);
        lengths(MISREAD, 1, 0, 0, 1, 2, 0, 0, 1);
        lengths(MISREAD, 60, 60, 60, 60, 1, 59, 59, 1);
        lengths(DOUBLED, 1, 1, 0, 1, 2, 0, 0, 1);
    }

    private static void brokenLastsOneToSixty() {
        lengths(BROKEN, 1, 0, 1, 60, 60, 1, 60, 60);
        lengths(BROKEN, 60, 60, 1, 60, 60, 1, 60, 60);
    }

    private static void doubledHasNothingForItsOther() {
        lengths(DOUBLED, 60, 60, 0, 60, 2, 0, 59, 2);
        lengths(DOUBLED, 2, 0, 0, 2, 2, 0, 1, 2);
    }

    // ---- promise 6

    private static void numberKnowsTheNumbersOfReigns() {
        Edge.ends(EdgesOfListsTest::one, 0, 0, (x, reign) -> x.number(reign, 5), 10, 10, UNKNOWN);
        Edge.ends(EdgesOfListsTest::ten, 0, 9, (x, reign) -> x.number(reign, 5), 10, 10, UNKNOWN);
    }

    private static void numberIsOneToSixty() {
        for (int kind = REIGN; kind <= DOUBLED; kind++) {
            int its = kind;
            Edge.ends(() -> oneOf(its, 10, 0), 1, 60, (x, n) -> x.number(1, n), 10, 10, OUTSIDE);
        }
    }

    private static void numberOfBesideIsNotBelowItsOther() {
        for (int m : new int[] {1, 2, 9, 10, 60}) {
            Edge.ends(() -> oneOf(BESIDE, Math.max(m, 10), m), m, 60, (x, n) -> x.number(1, n), Math.max(m, 10),
                    Math.max(m, 10), OUTSIDE);
        }
        for (int kind : new int[] {REIGN, LEFT, MISREAD, RULED, BROKEN, DOUBLED}) {
            Edge.taken(() -> oneOf(kind, 10, 60), "kind " + kind + " below its OTHER", x -> x.number(1, 1), 10);
        }
    }

    private static void numberRefusesUnknownFirst() {
        Edge.refused(EdgesOfListsTest::one, "number(1, 0)", x -> x.number(1, 0), UNKNOWN);
        Edge.refused(EdgesOfListsTest::one, "number(-1, 61)", x -> x.number(-1, 61), UNKNOWN);
    }

    private static void numberTellsWhatItWas() {
        ReignLadders x = oneOf(BESIDE, 60, 1);
        Edge.is("down to the least", x.number(1, 1), 60);
        Edge.is("up to the greatest", x.number(1, 60), 1);
        Edge.is("the same", x.number(1, 60), 60);
        Edge.is("about(1, 2)", x.about(1, 2), 60);
        Edge.is("of the one ahead", x.about(0, 2), 10);
    }

    public static void main(String[] args) {
        Edge.holds(1, "No REIGNS", EdgesOfListsTest::newHasNoReigns);
        Edge.holds(1, "no TIES", EdgesOfListsTest::newHasNoTies);
        Edge.holds(1, "and nothing else", EdgesOfListsTest::newHasNothingElse);
        Edge.holds(2, "OUTSIDE: land", EdgesOfListsTest::landsAreFive);
        Edge.holds(2, "OUTSIDE: kind", EdgesOfListsTest::kindsAreSeven);
        Edge.holds(2, "OUTSIDE: n", EdgesOfListsTest::numbersAreOneToSixty);
        Edge.holds(2, "OUTSIDE: m", EdgesOfListsTest::othersAreNoneToSixty);
        Edge.holds(2, "OUTSIDE: m of BESIDE also above n", EdgesOfListsTest::othersOfBesideAreTheirNumberAtMost);
        Edge.holds(2, "OUTSIDE: edition", EdgesOfListsTest::editionsAreTen);
        Edge.holds(2, "OUTSIDE: edition ahead of that of the one ahead",
                EdgesOfListsTest::editionsAreNotAheadOfThatOfTheOneAhead);
        Edge.holds(2, "STATE: BESIDE as the first of its LAND", EdgesOfListsTest::besideIsNotTheFirst);
        Edge.holds(2, "FULL: 10 at most in all", EdgesOfListsTest::reignsAreTenAtMost);
        Edge.holds(2, "FULL (also of MISREAD ones)", EdgesOfListsTest::misreadOnesAreThreeAtMost);
        Edge.holds(2, "at most 3 are MISREAD (or DOUBLED)", EdgesOfListsTest::othersAreNoMisreadOnes);
        Edge.holds(2, "OUTSIDE ahead of STATE", EdgesOfListsTest::outsideIsAheadOfStateOfReigns);
        Edge.holds(2, "OUTSIDE ahead of FULL", EdgesOfListsTest::outsideIsAheadOfFullOfReigns);
        Edge.holds(2, "OUTSIDE ahead of FULL of MISREAD ones", EdgesOfListsTest::outsideIsAheadOfFullOfMisreadOnes);
        Edge.holds(2, "STATE ahead of FULL", EdgesOfListsTest::stateIsAheadOfFullOfReigns);
        Edge.holds(3, "UNKNOWN", EdgesOfListsTest::aboutKnowsTheNumbersOfReigns);
        Edge.holds(3, "OUTSIDE", EdgesOfListsTest::aboutTellsSixThings);
        Edge.holds(3, "UNKNOWN ahead of OUTSIDE", EdgesOfListsTest::aboutRefusesUnknownFirst);
        Edge.holds(3, "the one ahead of it in its LAND (NONE)", EdgesOfListsTest::noneIsAheadOfTheFirst);
        Edge.holds(3, "least and greatest of all", EdgesOfListsTest::aboutTellsTheEdges);
        Edge.holds(4, "UNKNOWN", EdgesOfListsTest::asKnowsTheNumbersOfReigns);
        Edge.holds(4, "OUTSIDE", EdgesOfListsTest::asKnowsSevenKinds);
        Edge.holds(4, "UNKNOWN ahead of OUTSIDE", EdgesOfListsTest::asRefusesUnknownFirst);
        Edge.holds(4, "NONE: it is none such", EdgesOfListsTest::whatIsNoneSuchIsNone);
        Edge.holds(5, "UNKNOWN", EdgesOfListsTest::lastsKnowsTheNumbersOfReigns);
        Edge.holds(5, "OUTSIDE: count", EdgesOfListsTest::countsAreTwo);
        Edge.holds(5, "OUTSIDE: which", EdgesOfListsTest::lastsTellsThreeThings);
        Edge.holds(5, "UNKNOWN ahead of OUTSIDE", EdgesOfListsTest::lastsRefusesUnknownFirst);
        Edge.holds(5, "a REIGN n less COUNT", EdgesOfListsTest::aReignLastsItsNumberLessCount);
        Edge.holds(5, "LEFT 0 to what a REIGN lasts", EdgesOfListsTest::leftLastsFromNothing);
        Edge.holds(5, "MISREAD m less COUNT (0 at least)", EdgesOfListsTest::misreadLastsNothingAtLeast);
        Edge.holds(5, "how many unlike lengths there are", EdgesOfListsTest::likeLengthsAreOne);
        Edge.holds(5, "BROKEN 1 to 60, whatever n and COUNT are", EdgesOfListsTest::brokenLastsOneToSixty);
        Edge.holds(5, "DOUBLED as MISREAD with 0 for m", EdgesOfListsTest::doubledHasNothingForItsOther);
        Edge.holds(6, "UNKNOWN", EdgesOfListsTest::numberKnowsTheNumbersOfReigns);
        Edge.holds(6, "n (1 to 60)", EdgesOfListsTest::numberIsOneToSixty);
        Edge.holds(6, "OUTSIDE (also below OTHER of BESIDE)", EdgesOfListsTest::numberOfBesideIsNotBelowItsOther);
        Edge.holds(6, "UNKNOWN ahead of OUTSIDE", EdgesOfListsTest::numberRefusesUnknownFirst);
        Edge.holds(6, "what it was", EdgesOfListsTest::numberTellsWhatItWas);
        Edge.end();
    }
}
