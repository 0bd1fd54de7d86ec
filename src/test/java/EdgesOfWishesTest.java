import java.util.Arrays;

/** Promises 27 to 31, each sentence that names an edge: wish, closes, best, tell, judge. */
public final class EdgesOfWishesTest {
    private static final int NONE = Edge.NONE, UNKNOWN = Edge.UNKNOWN, OUTSIDE = Edge.OUTSIDE, FULL = Edge.FULL,
            YEAR_UNKNOWN = Edge.YEAR_UNKNOWN, YEAR_OUTSIDE = Edge.YEAR_OUTSIDE;
    private static final int FAR_OFF = Integer.MAX_VALUE, WISHES = 6;
    private static final int REIGN = 0, BESIDE = 1, LEFT = 2, MISREAD = 3, RULED = 4, BROKEN = 5, DOUBLED = 6;

    // ---- the objects that are asked

    /** REIGNS 0, 1 and 2, each the first of its LAND; 0 begins in the year 0. */
    private static ReignLadders three() {
        ReignLadders x = Worlds.three();
        Worlds.skyIn(x, 0, 0);
        return x;
    }

    private static ReignLadders wishes(int many) {
        ReignLadders x = three();
        for (int wish = 0; wish < many; wish++) {
            x.wish(1, 1, 0, 1, wish);
        }
        return x;
    }

    private static ReignLadders none() {
        ReignLadders x = wishes(2);
        x.ring(0, 1, 1, 0);
        return x;
    }

    private static long wish(ReignLadders x, int... told) {
        return x.wish(told[0], told[1], told[2], told[3], told[4]);
    }

    private static final int[] A_WISH = {0, 1, 2, 1, 0};

    // ---- promise 27

    private static void between(int[] told, int place, int least, int most, int refusal) {
        Edge.ends(EdgesOfWishesTest::three, least, most, (x, value) -> wish(x, Edge.with(told, place, value)), 0, 0,
                refusal);
    }

    private static void wishIsOfReigns() {
        between(new int[] {0, 1, 1, 1, 0}, 0, 0, 2, UNKNOWN);
        between(new int[] {1, 1, 0, 1, 0}, 2, 0, 2, UNKNOWN);
        Edge.ends(Worlds::ten, 0, 9, (x, a) -> x.wish(a, 1, 5, 1, 0), 0, 0, UNKNOWN);
        Edge.ends(Worlds::ten, 0, 9, (x, b) -> x.wish(5, 1, b, 1, 0), 0, 0, UNKNOWN);
    }

    private static void wishIsOfTwo() {
        for (int reign = 0; reign < 3; reign++) {
            int same = reign;
            Edge.refused(EdgesOfWishesTest::three, "of " + reign, x -> x.wish(same, 1, same, 2, 0), UNKNOWN);
        }
    }

    private static void wishHasPlaces() {
        between(A_WISH, 1, 1, 99, OUTSIDE);
        between(A_WISH, 3, 1, 99, OUTSIDE);
    }

    private static void wishHasSlack() {
        between(A_WISH, 4, 0, 20, OUTSIDE);
    }

    private static void wishesAreSixAtMost() {
        ReignLadders x = three();
        for (int wish = 0; wish < WISHES; wish++) {
            Edge.is("wish " + wish, wish(x, A_WISH), wish);
        }
        Edge.refused(() -> wishes(WISHES), "a seventh", y -> wish(y, A_WISH), FULL);
        Edge.taken(() -> {
            ReignLadders y = wishes(0);
            for (int tie = 0; tie < 7; tie++) {
                y.ring(0, 1, 0, 0);
            }
            return y;
        }, "where no TIE has room", y -> wish(y, A_WISH), 0);
        Edge.taken(() -> wishes(WISHES), "a TIE where no WISH has room", y -> y.tie(0, 1, 1, 1, 0, 0), 1);
    }

    /** What two objects answer that differ only by WISHES. */
    private static void aWishIsNoTie() {
        ReignLadders x = three();
        ReignLadders y = three();
        x.wish(0, 1, 1, 1, 0);
        x.wish(0, 2, 1, 1, 0);
        for (int reign = 0; reign < 3; reign++) {
            for (int side = 0; side <= 1; side++) {
                Edge.is("span(0, 9, " + reign + ", " + side + ")", x.span(0, 9, reign, side), y.span(0, 9, reign, side));
                Edge.is("held(0, 9, " + reign + ", " + side + ")", x.held(0, 9, reign, side), y.held(0, 9, reign, side));
            }
        }
        x.tell(1, 500);
        Edge.is("judge(0)", x.judge(0), NONE);
        Edge.is("can(0, 9)", x.can(0, 9), 1);
        Edge.is("doubt(0, 9, 0)", x.doubt(0, 9, 0), 0);
        Edge.is("floats(0, 9)", x.floats(0, 9), 6);
        Edge.is("open(0, 9)", x.open(0, 9), 8000);
        Edge.is("part()", x.part(), NONE);
        Edge.is("tied(1, 0)", x.tied(1, 0), UNKNOWN);
        Edge.is("undo()", x.undo(), 0);
    }

    private static void wishRefusesInOrder() {
        for (int place : new int[] {1, 3, 4}) {
            int[] outside = Edge.with(A_WISH, place, FAR_OFF);
            Edge.refused(EdgesOfWishesTest::three, "UNKNOWN a, " + Arrays.toString(outside),
                    x -> wish(x, Edge.with(outside, 0, 3)), UNKNOWN);
            Edge.refused(EdgesOfWishesTest::three, "UNKNOWN b, " + Arrays.toString(outside),
                    x -> wish(x, Edge.with(outside, 2, -1)), UNKNOWN);
            Edge.refused(EdgesOfWishesTest::three, "the same, " + Arrays.toString(outside),
                    x -> wish(x, Edge.with(outside, 2, 0)), UNKNOWN);
            Edge.refused(() -> wishes(WISHES), "OUTSIDE ahead of FULL, " + Arrays.toString(outside),
                    x -> wish(x, outside), OUTSIDE);
        }
        Edge.refused(() -> wishes(WISHES), "UNKNOWN ahead of FULL: a", x -> wish(x, Edge.with(A_WISH, 0, 3)), UNKNOWN);
        Edge.refused(() -> wishes(WISHES), "UNKNOWN ahead of FULL: b", x -> wish(x, Edge.with(A_WISH, 2, 3)), UNKNOWN);
        Edge.refused(() -> wishes(WISHES), "UNKNOWN ahead of FULL: the same", x -> wish(x, Edge.with(A_WISH, 2, 0)),
                UNKNOWN);
    }

    // ---- promise 28

    private static final Asked CLOSES = new Asked(() -> wishes(1), (x, school, edition) -> x.closes(school, edition, 0),
            UNKNOWN, OUTSIDE);

    private static void closesOfSchools() {
        CLOSES.schools(4000, 4000);
    }

    private static void closesOfEditions() {
        CLOSES.editions(4000, 4000);
    }

    private static void closesOfWishes() {
        Edge.ends(() -> wishes(1), 0, 0, (x, wish) -> x.closes(0, 9, wish), 4000, 4000, UNKNOWN);
        Edge.ends(() -> wishes(WISHES), 0, 5, (x, wish) -> x.closes(0, 9, wish), 4000, 3990, UNKNOWN);
        Edge.beyond(EdgesOfWishesTest::none, 0, 1, (x, wish) -> x.closes(0, 9, wish), UNKNOWN);
        Edge.refused(EdgesOfWishesTest::three, "the first of none", x -> x.closes(0, 9, 0), UNKNOWN);
    }

    private static void closesRefusesSchoolThenEditionThenWish() {
        CLOSES.schoolFirst();
        Asked.aheadOfAll(() -> wishes(1), (x, school, edition) -> x.closes(school, edition, 1), UNKNOWN, OUTSIDE);
        Asked.aheadOfAll(() -> wishes(1), (x, school, edition) -> x.closes(school, edition, -1), UNKNOWN, OUTSIDE);
    }

    private static void aWishThatCannotBe() {
        for (int slack = 19; slack <= 20; slack++) {
            ReignLadders x = three();
            x.sky(1, 1, 20, 20, 20, 0);
            x.wish(0, 1, 1, 1, slack);
            Edge.is("20 years by SLACK " + slack, x.closes(0, 0, 0), slack == 20 ? 0 : NONE);
        }
        for (int year = 1; year <= 2; year++) {
            ReignLadders x = Worlds.two();
            x.sky(0, 1, 2000, 2000, 2000, 0);
            x.wish(0, year, 1, 1, 0);
            Edge.is("in the year " + (1999 + year), x.closes(0, 0, 0), year == 1 ? 4000 : NONE);
        }
    }

    private static void noLadderWithoutIt() {
        Edge.taken(EdgesOfWishesTest::none, "closes(0, 9, 0)", x -> x.closes(0, 9, 0), NONE);
        Edge.taken(EdgesOfWishesTest::none, "closes(1, 0, 1)", x -> x.closes(1, 0, 1), NONE);
    }

    private static void aWishIsKnownWithItsReigns() {
        for (int from = 1; from <= 9; from++) {
            for (int way = 0; way <= 1; way++) {
                ReignLadders x = three();
                x.reign(3, REIGN, 10, 0, from);
                x.wish(way == 0 ? 3 : 0, 1, way == 0 ? 0 : 3, 1, 0);
                Edge.is("way " + way + ", ahead of " + from, x.closes(0, from - 1, 0), NONE);
                Edge.is("way " + way + ", from " + from, x.closes(0, from, 0), 4000);
            }
        }
    }

    private static void aWishMayCloseNothingOrAll() {
        ReignLadders x = Worlds.two();
        x.wish(0, 1, 1, 1, 0);
        x.wish(0, 99, 1, 1, 20);
        Edge.is("of what is all open", x.closes(0, 0, 0), 0);
        Edge.is("of what cannot be at the ends", x.closes(0, 0, 1), 2 * 78);
        x.sky(0, 1, 7, 7, 7, 0);
        Edge.is("all that is open", x.closes(0, 0, 0), 4000);
        x.sky(1, 1, 7, 7, 7, 0);
        Edge.is("of what is closed", x.closes(0, 0, 0), 0);
        Edge.is("what cannot be", x.closes(0, 0, 1), NONE);
    }

    private static void closesOverAllLadders() {
        ReignLadders x = three();
        x.sky(1, 1, 15, 3, 9, 0);
        x.wish(1, 1, 0, 1, 9);
        x.wish(1, 1, 0, 7, 6);
        x.wish(1, 1, 2, 1, 0);
        Edge.is("3 to 15 becomes 3 to 9", x.closes(0, 0, 0), 6);
        Edge.is("3 to 15 becomes 3 to 12, where only 3 and 9 are told", x.closes(0, 0, 1), 6);
        Edge.is("of what is free there are 12 left", x.closes(0, 0, 2), 3988);
        Edge.is("the best", x.best(0, 0), 2);
    }

    private static void aWishIsBelieved() {
        ReignLadders x = wishes(1);
        Due.text(x, 0, "B:0?k=0");
        Due.text(x, 0, "B:0?r=1");
        Edge.is("whatever a school says of TIES", x.closes(0, 0, 0), 4000);
    }

    // ---- promise 29

    private static final Asked BEST = new Asked(() -> wishes(2), ReignLadders::best, UNKNOWN, OUTSIDE);

    private static void bestOfSchools() {
        BEST.schools(0, 0);
    }

    private static void bestOfEditions() {
        BEST.editions(0, 0);
    }

    private static void bestRefusesUnknownFirst() {
        BEST.schoolFirst();
    }

    private static void noneCanBe() {
        Edge.taken(EdgesOfWishesTest::three, "no WISHES", x -> x.best(0, 9), NONE);
        Edge.taken(ReignLadders::new, "nothing", x -> x.best(0, 9), NONE);
        Edge.taken(EdgesOfWishesTest::none, "no LADDER", x -> x.best(0, 9), NONE);
        ReignLadders x = three();
        x.sky(1, 1, 50, 50, 50, 0);
        x.reign(3, REIGN, 10, 0, 5);
        x.wish(0, 1, 1, 1, 20);
        x.wish(3, 1, 0, 1, 20);
        Edge.is("one that cannot be, one not KNOWN", x.best(0, 4), NONE);
        Edge.is("one KNOWN", x.best(0, 5), 1);
    }

    private static void ofLikeOnesTheLeast() {
        ReignLadders x = three();
        for (int wish = 0; wish < WISHES; wish++) {
            x.wish(1 + wish % 2, 5, 0, 1 + wish, 3);
        }
        Edge.is("of six alike", x.best(0, 0), 0);
        ReignLadders y = three();
        for (int wish = 0; wish < WISHES; wish++) {
            y.wish(1, 1, 0, 1, WISHES - wish);
        }
        Edge.is("the last closes most", y.best(0, 0), 5);
        ReignLadders z = wishes(WISHES);
        Edge.is("the first closes most", z.best(0, 0), 0);
    }

    private static void oneThatClosesNothingIsBest() {
        ReignLadders x = three();
        x.wish(1, 99, 0, 1, 20);
        x.wish(0, 1, 1, 1, 20);
        x.sky(1, 1, 0, 0, 0, 0);
        Edge.is("of one that cannot be and one that closes nothing", x.best(0, 0), 1);
        ReignLadders z = three();
        z.sky(1, 1, 5, 0, 9, 0);
        z.wish(0, 1, 1, 1, 20);
        Edge.is("of three years and one WISH that closes none of them", z.best(0, 0), 0);
        ReignLadders y = Worlds.two();
        y.sky(0, 1, 0, 0, 0, 0);
        y.sky(1, 1, 5, 5, 5, 0);
        y.wish(0, 1, 1, 1, 4);
        y.wish(0, 1, 1, 1, 5);
        Edge.is("where nothing is open", y.open(0, 0), 0);
        Edge.is("of one that cannot be and one that can", y.best(0, 0), 1);
    }

    // ---- promise 30

    private static void tellOfReigns() {
        Edge.ends(EdgesOfWishesTest::three, 0, 2, (x, reign) -> x.tell(reign, 5), 0, 0, YEAR_UNKNOWN);
        Edge.ends(Worlds::ten, 0, 9, (x, reign) -> x.tell(reign, 5), 0, 0, YEAR_UNKNOWN);
    }

    private static void tellOfYears() {
        Edge.ends(EdgesOfWishesTest::three, -2000, 2000, (x, year) -> x.tell(1, year), 0, 0, YEAR_OUTSIDE);
    }

    private static void tellRefusesUnknownFirst() {
        for (int year : new int[] {-2001, 2001}) {
            Edge.refused(EdgesOfWishesTest::three, "tell(3, " + year + ")", x -> x.tell(3, year), YEAR_UNKNOWN);
            Edge.refused(EdgesOfWishesTest::three, "tell(-1, " + year + ")", x -> x.tell(-1, year), YEAR_UNKNOWN);
        }
    }

    private static void tellTellsWhatItWas() {
        ReignLadders x = Worlds.ten();
        for (int reign = 0; reign < 10; reign++) {
            Edge.is("0 at first", x.tell(reign, -2000), 0);
            Edge.is("up from the first year", x.tell(reign, 2000), -2000);
            Edge.is("down from the last", x.tell(reign, 0), 2000);
        }
        ReignLadders y = three();
        y.tell(2, 44);
        y.reign(2, REIGN, 10, 0, 0);
        Edge.is("of a new one", y.tell(3, 1), 0);
    }

    // ---- promise 31

    private static void judgeOfSchools() {
        Edge.ends(EdgesOfWishesTest::three, 0, 1, (x, school) -> x.judge(school), NONE, NONE, UNKNOWN);
        Edge.beyond(ReignLadders::new, 0, 1, ReignLadders::judge, UNKNOWN);
    }

    private static void judgedWell() {
        for (int school = 0; school <= 1; school++) {
            Edge.is("of nothing", new ReignLadders().judge(school), NONE);
            Edge.is("of three", three().judge(school), NONE);
        }
    }

    /** All of ten REIGNS of one LAND come one behind the other, but for one. */
    private static void theFirstReignThatDoesNotCome() {
        for (int wrong = 1; wrong <= 9; wrong++) {
            ReignLadders x = new ReignLadders();
            for (int reign = 0; reign < 10; reign++) {
                x.reign(3, REIGN, 10, 0, reign);
                x.tell(reign, 10 * reign);
            }
            Edge.is("all come", x.judge(0), NONE);
            x.tell(wrong, 10 * wrong + 1);
            Edge.is("a year late, " + wrong, x.judge(0), 100 + wrong);
            x.tell(wrong, 10 * wrong - 1);
            Edge.is("a year early, " + wrong, x.judge(1), 100 + wrong);
            for (int later = wrong + 1; later < 10; later++) {
                x.tell(later, 0);
            }
            Edge.is("the first of these, " + wrong, x.judge(0), 100 + wrong);
        }
    }

    private static void theFirstTieThatDoesNotHold() {
        for (int wrong = 0; wrong <= 7; wrong++) {
            ReignLadders x = Worlds.two();
            for (int tie = 0; tie < 8; tie++) {
                x.ring(1, 1, tie < wrong ? 0 : 1, 9);
            }
            Edge.is("the first of those from " + wrong, x.judge(0), 200 + wrong);
            x.tell(1, 1);
            Edge.is("all hold", x.judge(0), NONE);
            x.tell(1, 0);
            Due.text(x, 1, "B:0?r>" + Math.max(0, wrong - 1));
            Edge.is("only believed ones", x.judge(1), wrong == 0 ? 200 : NONE);
        }
    }

    private static void reignsAheadOfTies() {
        ReignLadders x = new ReignLadders();
        for (int reign = 0; reign < 10; reign++) {
            x.reign(reign / 2, REIGN, 10, 0, 9);
        }
        x.ring(0, 1, 1, 0);
        for (int reign = 1; reign < 9; reign += 2) {
            x.tell(reign, 10);
        }
        Edge.is("the last REIGN ahead of the first TIE", x.judge(0), 109);
        x.tell(9, 10);
        Edge.is("the first TIE", x.judge(0), 200);
    }

    private static void aToldLadderMayLieInAnyYears() {
        ReignLadders x = new ReignLadders();
        x.reign(0, REIGN, 10, 0, 0);
        x.reign(0, REIGN, 10, 0, 0);
        x.tell(0, -2000);
        x.tell(1, -1990);
        Edge.is("the first years", x.judge(0), NONE);
        x.tell(0, 1990);
        x.tell(1, 2000);
        Edge.is("the last years", x.judge(0), NONE);
        x.tell(0, -2000);
        Edge.is("from the first to the last", x.judge(0), 101);
    }

    /** How long REIGN 0 of a kind may last as it is judged, a BESIDE behind it or not. */
    private static void judged(int kind, int n, int m, int count, int... may) {
        for (int beside = 0; beside <= 1; beside++) {
            ReignLadders x = new ReignLadders();
            x.reign(0, kind, n, m, 0);
            x.reign(0, beside == 1 ? BESIDE : REIGN, 7, 7, 0);
            Due.text(x, 1, "C:" + count);
            x.tell(0, 300);
            for (int years = -2; years <= 62; years++) {
                x.tell(1, 300 + years - 7 * beside);
                Edge.is("kind " + kind + ", n " + n + ", m " + m + ", COUNT " + count + ", " + years, x.judge(1),
                        Edge.isOneOf(may, years) ? NONE : 101);
            }
        }
    }

    private static void asThatOneMayLast() {
        judged(REIGN, 1, 0, 0, 1);
        judged(REIGN, 60, 60, 1, 59);
        judged(RULED, 60, 0, 0, 60);
        judged(RULED, 1, 0, 1, 0);
        judged(LEFT, 1, 0, 1, 0);
        judged(LEFT, 60, 0, 0, Edge.from(0, 60));
        judged(LEFT, 60, 0, 1, Edge.from(0, 59));
        judged(MISREAD, 20, 10, 0, 10, 20);
        judged(MISREAD, 20, 0, 1, 0, 19);
        judged(MISREAD, 1, 60, 1, 0, 59);
        judged(BROKEN, 1, 0, 0, Edge.from(1, 60));
        judged(BROKEN, 60, 0, 1, Edge.from(1, 60));
        judged(DOUBLED, 60, 60, 0, 0, 60);
        judged(DOUBLED, 1, 60, 1, 0);
    }

    private static void tiesAsTheyAreTold() {
        for (int from : new int[] {-700, 0, 700}) {
            for (int late = -30; late <= 30; late++) {
                for (int sort = 0; sort <= 3; sort++) {
                    tieAsItIsTold(sort, from, late);
                }
            }
        }
    }

    /** REIGN 0 begins in a year, REIGN 1 so much later. */
    private static void tieAsItIsTold(int sort, int from, int late) {
        ReignLadders x = Worlds.two();
        boolean holds = true;
        switch (sort) {
            case 0: x.tie(0, 4, 1, 2, 20, 9); holds = late >= -18 && late <= 22; break;
            case 1: x.sky(1, 3, from + 12, from - 18, from + 5, 9); holds = late == 10 || late == -20 || late == 3; break;
            case 2: x.ring(1, 3, from - 8, 9); holds = late >= -10; break;
            default: x.letter(0, 4, 1, 2, 9); holds = late >= 2; break;
        }
        x.tell(0, from);
        x.tell(1, from + late);
        Edge.is("sort " + sort + ", " + late + " years from " + from, x.judge(0), holds ? NONE : 200);
    }

    public static void main(String[] args) {
        Edge.holds(27, "UNKNOWN: a, b", EdgesOfWishesTest::wishIsOfReigns);
        Edge.holds(27, "UNKNOWN: or they are the same", EdgesOfWishesTest::wishIsOfTwo);
        Edge.holds(27, "OUTSIDE: x, y", EdgesOfWishesTest::wishHasPlaces);
        Edge.holds(27, "OUTSIDE: slack", EdgesOfWishesTest::wishHasSlack);
        Edge.holds(27, "FULL: 6 at most", EdgesOfWishesTest::wishesAreSixAtMost);
        Edge.holds(27, "that nobody has told", EdgesOfWishesTest::aWishIsNoTie);
        Edge.holds(27, "UNKNOWN, OUTSIDE, FULL", EdgesOfWishesTest::wishRefusesInOrder);
        Edge.holds(28, "UNKNOWN: school", EdgesOfWishesTest::closesOfSchools);
        Edge.holds(28, "OUTSIDE: edition", EdgesOfWishesTest::closesOfEditions);
        Edge.holds(28, "UNKNOWN: also wish", EdgesOfWishesTest::closesOfWishes);
        Edge.holds(28, "school, edition, wish", EdgesOfWishesTest::closesRefusesSchoolThenEditionThenWish);
        Edge.holds(28, "NONE: it CANNOT be", EdgesOfWishesTest::aWishThatCannotBe);
        Edge.holds(28, "NONE: there is no LADDER without it", EdgesOfWishesTest::noLadderWithoutIt);
        Edge.holds(28, "NONE: one of its REIGNS is not KNOWN", EdgesOfWishesTest::aWishIsKnownWithItsReigns);
        Edge.holds(28, "by how much, from nothing to all", EdgesOfWishesTest::aWishMayCloseNothingOrAll);
        Edge.holds(28, "OPEN less what it would be with it", EdgesOfWishesTest::closesOverAllLadders);
        Edge.holds(28, "(KNOWN and believed)", EdgesOfWishesTest::aWishIsBelieved);
        Edge.holds(29, "UNKNOWN: school", EdgesOfWishesTest::bestOfSchools);
        Edge.holds(29, "OUTSIDE: edition", EdgesOfWishesTest::bestOfEditions);
        Edge.holds(29, "UNKNOWN ahead of OUTSIDE", EdgesOfWishesTest::bestRefusesUnknownFirst);
        Edge.holds(29, "NONE: none can be", EdgesOfWishesTest::noneCanBe);
        Edge.holds(29, "of like ones the least", EdgesOfWishesTest::ofLikeOnesTheLeast);
        Edge.holds(29, "closes most, which may be nothing", EdgesOfWishesTest::oneThatClosesNothingIsBest);
        Edge.holds(30, "-9001: UNKNOWN", EdgesOfWishesTest::tellOfReigns);
        Edge.holds(30, "-9002: OUTSIDE (-2000 to 2000)", EdgesOfWishesTest::tellOfYears);
        Edge.holds(30, "-9001 ahead of -9002", EdgesOfWishesTest::tellRefusesUnknownFirst);
        Edge.holds(30, "in which it did (0 at first)", EdgesOfWishesTest::tellTellsWhatItWas);
        Edge.holds(31, "UNKNOWN", EdgesOfWishesTest::judgeOfSchools);
        Edge.holds(31, "NONE: all is well", EdgesOfWishesTest::judgedWell);
        Edge.holds(31, "the first REIGN (100 and its number)", EdgesOfWishesTest::theFirstReignThatDoesNotCome);
        Edge.holds(31, "the first believed TIE (200 and its number)", EdgesOfWishesTest::theFirstTieThatDoesNotHold);
        Edge.holds(31, "of all that there are; else", EdgesOfWishesTest::reignsAheadOfTies);
        Edge.holds(31, "of a year from -2000 to 2000", EdgesOfWishesTest::aToldLadderMayLieInAnyYears);
        Edge.holds(31, "as that one may last", EdgesOfWishesTest::asThatOneMayLast);
        Edge.holds(31, "a TIE that does not hold", EdgesOfWishesTest::tiesAsTheyAreTold);
        Edge.end();
    }
}
