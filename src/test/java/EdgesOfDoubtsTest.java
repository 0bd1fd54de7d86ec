/** Promises 22 to 26, each sentence that names an edge: held, doubt, floats, open, part. */
public final class EdgesOfDoubtsTest {
    private static final int NONE = Edge.NONE, UNKNOWN = Edge.UNKNOWN, OUTSIDE = Edge.OUTSIDE, STATE = Edge.STATE;
    private static final int REIGN = 0, DOUBLED = 6;

    private interface Telling {
        void tell(ReignLadders x);
    }

    // ---- promise 22

    private static final Asked HELD = new Asked(Worlds::tied,
            (x, school, edition) -> x.held(school, edition, 1, 1), UNKNOWN, OUTSIDE);

    private static void heldOfSchools() {
        HELD.schools(3, 3);
    }

    private static void heldOfReigns() {
        Edge.ends(Worlds::tied, 0, 1, (x, reign) -> x.held(0, 9, reign, 0), 1, 3, UNKNOWN);
        Edge.ends(Worlds::ten, 0, 9, (x, reign) -> x.held(0, 9, reign, 0), 0, 0, UNKNOWN);
        Edge.ends(Worlds::none, 0, 1, (x, reign) -> x.held(0, 9, reign, 0), 0, 0, UNKNOWN);
    }

    private static void heldOfEditions() {
        HELD.editions(3, 3);
    }

    private static void heldOfSides() {
        Edge.ends(Worlds::tied, 0, 1, (x, side) -> x.held(0, 9, 0, side), 1, 1, OUTSIDE);
        Edge.ends(Worlds::none, 0, 1, (x, side) -> x.held(0, 9, 0, side), 0, 0, OUTSIDE);
    }

    private static void heldRefusesSchoolThenEditionThenReignThenSide() {
        HELD.schoolFirst();
        Asked.aheadOfAll(Worlds::two, (x, school, edition) -> x.held(school, edition, 2, 0), UNKNOWN, OUTSIDE);
        Asked.aheadOfAll(Worlds::two, (x, school, edition) -> x.held(school, edition, 0, 2), UNKNOWN, OUTSIDE);
        Edge.refused(Worlds::two, "a reign ahead of a side", x -> x.held(0, 9, 2, 2), UNKNOWN);
        Edge.refused(Worlds::two, "a reign ahead of a side", x -> x.held(0, 9, -1, -1), UNKNOWN);
    }

    private static void nothingHoldsIt() {
        Edge.taken(Worlds::two, "without TIES", x -> x.held(0, 9, 0, 0), 0);
        ReignLadders x = Worlds.two();
        x.ring(0, 1, -2000, 0);
        Edge.is("a RING that holds nothing", x.held(0, 9, 0, 0), 0);
        x.ring(0, 1, -1999, 0);
        Edge.is("a RING that holds a year", x.held(0, 9, 0, 0), 2);
        Edge.is("on the other side", x.held(0, 9, 0, 1), 0);
        x.ring(0, 1, -1999, 0);
        Edge.is("two that hold it alike", x.held(0, 9, 0, 0), 0);
    }

    private static void heldWithoutALadder() {
        for (int reign = 0; reign <= 1; reign++) {
            int its = reign;
            Edge.taken(Worlds::none, "the least", x -> x.held(0, 9, its, 0), 0);
            Edge.taken(Worlds::none, "the greatest", x -> x.held(1, 0, its, 1), 0);
        }
    }

    private static void heldOfWhatIsNotKnown() {
        for (int from = 1; from <= 9; from++) {
            ReignLadders x = new ReignLadders();
            x.reign(0, REIGN, 10, 0, 0);
            x.reign(0, REIGN, 10, 0, from);
            Worlds.skyIn(x, 0, 0);
            Edge.is("ahead of " + from, x.held(0, from - 1, 1, 0), 0);
            Edge.is("from " + from, x.held(0, from, 1, 0), 1);
        }
    }

    private static void heldAsBits() {
        ReignLadders x = Worlds.ten();
        for (int tie = 0; tie < 4; tie++) {
            x.tie(tie, 99, tie + 1, 1, 20, 0);
        }
        Worlds.skyIn(x, 0, 0);
        Edge.is("four TIES and a SKY hold the last LAND", x.held(0, 0, 4, 1), 31);
        x.undo();
        x.ring(4, 1, 1990, 0);
        Edge.is("a RING in place of the SKY", x.held(0, 0, 0, 0), 31);
        ReignLadders y = Worlds.two();
        for (int tie = 0; tie < 7; tie++) {
            y.ring(0, 1, -2000, 0);
        }
        y.ring(1, 1, 0, 0);
        Edge.is("the eighth alone", y.held(0, 0, 1, 0), 128);
        Edge.is("nothing but the eighth", y.held(0, 0, 0, 0), 0);
    }

    private static void heldOverAllLadders() {
        ReignLadders x = Worlds.two();
        x.sky(0, 1, 10, 0, 5, 0);
        x.ring(0, 1, 3, 0);
        Edge.is("the least, 5", x.held(0, 0, 0, 0), 3);
        Edge.is("the greatest, 10", x.held(0, 0, 0, 1), 1);
        x.letter(0, 1, 1, 1, 0);
        Worlds.skyIn(x, 1, 7);
        Edge.is("the greatest, 5", x.held(0, 0, 0, 1), 1 + 4 + 8);
        x.wish(0, 1, 1, 1, 0);
        Edge.is("with a WISH that has no part in it", x.held(0, 0, 0, 1), 1 + 4 + 8);
        ReignLadders y = Worlds.two();
        y.sky(0, 1, 5, 0, 5, 0);
        y.ring(0, 1, -5, 0);
        Edge.is("the least, 0", y.held(0, 0, 0, 0), 1);
        y.letter(0, 1, 1, 1, 0);
        Edge.is("the least of what comes behind", y.held(0, 0, 1, 0), 1 + 4);
    }

    private static void onlyBelievedOnesHold() {
        ReignLadders x = Worlds.tied();
        Due.text(x, 1, "B:0?k=0");
        Edge.is("believed by 0", x.held(0, 0, 1, 0), 3);
        Edge.is("not believed by 1", x.held(1, 0, 1, 0), 0);
        Edge.is("nor its greatest", x.held(1, 0, 1, 1), 0);
    }

    // ---- promise 23

    private static final Asked DOUBT = new Asked(Worlds::none,
            (x, school, edition) -> x.doubt(school, edition, 0), UNKNOWN, OUTSIDE);

    private static ReignLadders doubted(int times) {
        ReignLadders x = Worlds.none();
        for (int time = 0; time < times; time++) {
            x.doubt(time % 2, time, time / 2 % 2);
        }
        return x;
    }

    private static void doubtOfSchools() {
        DOUBT.schools(1, 1);
    }

    private static void doubtOfEditions() {
        DOUBT.editions(1, 1);
    }

    private static void doubtOfWhat() {
        Edge.ends(Worlds::none, 0, 1, (x, what) -> x.doubt(0, 9, what), 1, 1, OUTSIDE);
        Edge.ends(Worlds::two, 0, 1, (x, what) -> x.doubt(0, 9, what), 0, 0, OUTSIDE);
    }

    private static void doubtIsDoneTenTimes() {
        for (int times = 0; times < 10; times++) {
            int done = times;
            Edge.taken(() -> doubted(done), "behind " + times, x -> x.doubt(0, 9, 0), 1);
            Edge.taken(() -> doubted(done), "behind " + times + ", RIVALS", x -> x.doubt(1, 0, 1), 1);
            Edge.is("count(6) behind " + times, doubted(times).count(6), times);
        }
        for (int school = 0; school <= 1; school++) {
            for (int what = 0; what <= 1; what++) {
                int its = school, asks = what;
                Edge.refused(() -> doubted(10), "an eleventh", x -> x.doubt(its, 9, asks), STATE);
            }
        }
        Edge.is("count(6)", doubted(10).count(6), 10);
        Edge.is("count(6) behind an eleventh", doubted(11).count(6), 10);
    }

    private static void doubtIsDoneTenTimesEver() {
        Edge.refused(() -> {
            ReignLadders x = doubted(10);
            x.undo();
            x.undo();
            x.undo();
            x.reign(2, REIGN, 10, 0, 0);
            x.blank();
            return x;
        }, "an eleventh, of another list", x -> x.doubt(0, 9, 0), STATE);
    }

    private static void refusedDoubtsAreNotDone() {
        ReignLadders x = Worlds.none();
        for (int time = 0; time < 11; time++) {
            x.doubt(2, 9, 0);
            x.doubt(0, 10, 0);
            x.doubt(0, 9, 2);
        }
        Edge.is("count(6)", x.count(6), 0);
        Edge.is("doubt(0, 9, 0)", x.doubt(0, 9, 0), 1);
        Edge.is("count(6) behind it", x.count(6), 1);
    }

    private static void doubtRefusesSchoolThenEditionThenWhatThenState() {
        DOUBT.schoolFirst();
        Asked.aheadOfAll(Worlds::none, (x, school, edition) -> x.doubt(school, edition, 2), UNKNOWN, OUTSIDE);
        Asked.aheadOfAll(() -> doubted(10), (x, school, edition) -> x.doubt(school, edition, 0), UNKNOWN, OUTSIDE);
        Edge.beyond(() -> doubted(10), 0, 1, (x, what) -> x.doubt(0, 9, what), OUTSIDE);
    }

    private static void doubtOfALadderIsNothing() {
        Edge.taken(ReignLadders::new, "of nothing", x -> x.doubt(0, 0, 0), 0);
        Edge.taken(ReignLadders::new, "rivals of nothing", x -> x.doubt(0, 0, 1), 0);
        Edge.taken(Worlds::tied, "of TIES that go along", x -> x.doubt(0, 0, 0), 0);
        Edge.taken(Worlds::tied, "rivals of these", x -> x.doubt(0, 0, 1), 0);
    }

    private static void evenAllAreDoubted() {
        ReignLadders x = new ReignLadders();
        x.reign(0, REIGN, 60, 0, 0);
        x.reign(0, REIGN, 60, 0, 0);
        for (int tie = 0; tie < 8; tie++) {
            x.letter(1, 1 + tie, 0, 1, 0);
        }
        Edge.is("all eight", x.doubt(0, 0, 0), 255);
        Edge.is("without rivals", x.doubt(0, 0, 1), 0);
        x.undo();
        Edge.is("all seven", x.doubt(0, 0, 0), 127);
    }

    private static void theFewestAheadOfTheLeastBits() {
        ReignLadders x = Worlds.two();
        for (int tie = 0; tie < 7; tie++) {
            x.tie(0, 1, 1, 1, tie, 0);
        }
        x.tie(0, 99, 1, 1, 20, 0);
        Edge.is("the eighth alone", x.doubt(0, 0, 0), 128);
        Edge.is("without rivals", x.doubt(0, 0, 1), 0);
        x.undo();
        x.undo();
        x.tie(0, 99, 1, 1, 0, 0);
        x.tie(0, 99, 1, 1, 0, 0);
        Edge.is("the last two of eight", x.doubt(0, 0, 0), 192);
    }

    private static void ofLikeOnesTheLeastBits() {
        ReignLadders x = Worlds.two();
        for (int tie = 0; tie < 8; tie++) {
            x.tie(0, 1 + tie % 2, 1, 1, 0, 0);
        }
        Edge.is("four of eight", x.doubt(0, 0, 0), 0x55);
        Edge.is("one rival", x.doubt(0, 0, 1), 1);
        ReignLadders y = Worlds.two();
        for (int tie = 0; tie < 8; tie++) {
            y.tie(0, 1 + 11 * tie, 1, 1, 0, 0);
        }
        Edge.is("all but the last", y.doubt(0, 0, 0), 127);
        Edge.is("seven rivals", y.doubt(0, 0, 1), 7);
    }

    private static void onlyBelievedOnesAreDoubted() {
        ReignLadders x = Worlds.two();
        x.ring(0, 1, -5, 0);
        x.ring(0, 1, 5, 4);
        Worlds.skyIn(x, 0, 0);
        Edge.is("not KNOWN", x.doubt(0, 3, 0), 0);
        Edge.is("KNOWN", x.doubt(0, 4, 0), 2);
        Edge.is("its rivals", x.doubt(0, 4, 1), 1);
        Due.text(x, 1, "B:0?r=1");
        Edge.is("not believed", x.doubt(1, 4, 0), 0);
        Edge.is("no rivals", x.doubt(1, 4, 1), 0);
        Due.text(x, 0, "B:0?k=1");
        Edge.is("the other not believed", x.doubt(0, 4, 0), 0);
        Edge.is("no rivals of it", x.doubt(0, 4, 1), 0);
    }

    private static void withoutAllThereIsALadder() {
        ReignLadders x = new ReignLadders();
        for (int reign = 0; reign < 10; reign++) {
            x.reign(0, REIGN, 60, 0, 0);
        }
        x.sky(0, 99, -2000, -2000, -2000, 0);
        x.sky(9, 1, -2000, -2000, -2000, 0);
        x.ring(0, 1, 2000, 0);
        Edge.is("of the longest lists", x.doubt(0, 0, 0), 7);
        Edge.is("its rivals", x.doubt(0, 0, 1), 0);
    }

    // ---- promise 24

    private static final Asked FLOATS = new Asked(Worlds::two, ReignLadders::floats, UNKNOWN, OUTSIDE);

    private static void floatsOfSchools() {
        FLOATS.schools(3, 3);
    }

    private static void floatsOfEditions() {
        FLOATS.editions(3, 3);
    }

    private static void floatsRefusesUnknownFirst() {
        FLOATS.schoolFirst();
    }

    private static void allOrNoneFloat() {
        Edge.taken(ReignLadders::new, "of nothing", x -> x.floats(0, 0), 0);
        Edge.taken(Worlds::ten, "all ten", x -> x.floats(0, 0), 1023);
        ReignLadders x = Worlds.ten();
        for (int land = 0; land < 5; land++) {
            x.ring(land, 1, 0, 0);
        }
        Edge.is("none of ten", x.floats(0, 0), 0);
        Edge.is("without a LADDER", Worlds.none().floats(0, 0), 0);
    }

    private static void allAreJoinedStepByStep() {
        ReignLadders x = Worlds.ten();
        x.tie(4, 1, 8, 1, 0, 0);
        x.letter(3, 1, 7, 1, 0);
        x.tie(2, 1, 6, 1, 0, 0);
        x.letter(5, 1, 1, 1, 0);
        Edge.is("a chain of all", x.floats(0, 0), 1023);
        x.ring(9, 1, 0, 0);
        Edge.is("held at its last", x.floats(0, 0), 0);
        x.undo();
        Worlds.skyIn(x, 0, 0);
        Edge.is("held at its first", x.floats(0, 0), 0);
        ReignLadders y = new ReignLadders();
        for (int reign = 0; reign < 10; reign++) {
            y.reign(0, REIGN, 10, 0, 0);
        }
        y.ring(9, 1, 0, 0);
        Edge.is("ten of one LAND, by the last", y.floats(0, 0), 0);
        y.undo();
        y.ring(0, 1, 0, 0);
        Edge.is("ten of one LAND, by the first", y.floats(0, 0), 0);
    }

    private static void onlyWhatIsKnownFloats() {
        for (int from = 1; from <= 9; from++) {
            ReignLadders x = Worlds.two();
            x.reign(1, REIGN, 10, 0, from);
            x.ring(0, 1, 0, from);
            Edge.is("ahead of " + from, x.floats(0, from - 1), 3);
            Edge.is("from " + from, x.floats(0, from), 6);
        }
    }

    private static void theFirstIsNotKnown() {
        ReignLadders x = new ReignLadders();
        x.reign(0, REIGN, 10, 0, 5);
        x.reign(1, REIGN, 10, 0, 0);
        Edge.is("ahead of 5", x.floats(0, 4), 2);
        Edge.is("from 5", x.floats(0, 5), 3);
    }

    private static void oneHoldsOnlyItsOwn() {
        for (int reign = 0; reign < 5; reign++) {
            ReignLadders x = Worlds.ten();
            x.ring(reign, 1, 0, 0);
            int own = 1 << reign | 1 << reign + 5;
            Edge.is("a RING of " + reign, x.floats(0, 0), 1023 & ~own);
            x.undo();
            Worlds.skyIn(x, reign + 5, 0);
            Edge.is("a SKY of " + (reign + 5), x.floats(0, 0), 1023 & ~own);
        }
    }

    private static void onlyBelievedOnesHoldAReign() {
        Telling[] holders = {x -> x.ring(0, 1, 0, 0), x -> Worlds.skyIn(x, 0, 0)};
        for (int sort = 1; sort <= 2; sort++) {
            ReignLadders x = Worlds.two();
            holders[2 - sort].tell(x);
            Due.text(x, 1, "B:0?k=" + sort);
            Edge.is("sort " + sort + ", believed", x.floats(0, 0), 2);
            Edge.is("sort " + sort + ", not believed", x.floats(1, 0), 3);
        }
        Telling[] joints = {x -> x.tie(0, 1, 1, 1, 0, 0), x -> x.letter(0, 1, 1, 1, 0)};
        for (int joint = 0; joint <= 1; joint++) {
            ReignLadders x = Worlds.two();
            x.ring(0, 1, 0, 0);
            joints[joint].tell(x);
            Due.text(x, 1, "B:0?k=" + 3 * joint);
            Edge.is("joint " + joint + ", believed", x.floats(0, 0), 0);
            Edge.is("joint " + joint + ", not believed", x.floats(1, 0), 2);
        }
    }

    // ---- promise 25

    private static final Asked OPEN = new Asked(Worlds::two, ReignLadders::open, UNKNOWN, OUTSIDE);

    private static void openOfSchools() {
        OPEN.schools(8000, 8000);
    }

    private static void openOfEditions() {
        OPEN.editions(8000, 8000);
    }

    private static void openRefusesUnknownFirst() {
        OPEN.schoolFirst();
    }

    private static void openWithoutALadder() {
        Edge.taken(Worlds::none, "no LADDER", x -> x.open(0, 9), NONE);
    }

    private static void fromNothingToAll() {
        Edge.taken(ReignLadders::new, "of nothing", x -> x.open(0, 0), 0);
        ReignLadders x = new ReignLadders();
        for (int reign = 0; reign < 10; reign++) {
            x.reign(reign / 2, REIGN, 1, 0, 0);
        }
        Edge.is("of ten that last a year", x.open(0, 0), 39990);
        Due.text(x, 0, "C:1");
        Edge.is("of ten that last no year", x.open(0, 0), 40000);
        for (int land = 0; land < 5; land++) {
            x.ring(2 * land, 1, 2000, 0);
        }
        Edge.is("of ten in the last year", x.open(0, 0), 0);
        ReignLadders y = new ReignLadders();
        y.reign(0, REIGN, 10, 0, 5);
        Edge.is("of one that is not KNOWN", y.open(0, 4), 0);
        Edge.is("of one that is", y.open(0, 5), 4000);
    }

    private static void openOverAllLadders() {
        ReignLadders x = Worlds.two();
        x.sky(0, 1, 5, 0, 9, 0);
        Worlds.skyIn(x, 1, 3);
        Edge.is("of three years and of one", x.open(0, 0), 9);
        x.reign(1, DOUBLED, 7, 0, 0);
        x.reign(1, REIGN, 7, 0, 0);
        Edge.is("with one DOUBLED", x.open(0, 0), 9 + 7);
    }

    // ---- promise 26

    private static void partOfNothing() {
        Edge.taken(ReignLadders::new, "of nothing", ReignLadders::part, NONE);
        Edge.taken(Worlds::ten, "of ten alike", ReignLadders::part, NONE);
        Edge.taken(Worlds::none, "of two without a LADDER", ReignLadders::part, NONE);
    }

    private static void theLeastAndTheGreatestNumber() {
        ReignLadders x = Worlds.ten();
        Due.text(x, 1, "B:0?k=2");
        for (int reign = 9; reign >= 0; reign--) {
            x.ring(reign, 1, 0, 9);
            int first = reign >= 5 ? reign - 5 : reign;
            Edge.is("a RING of " + reign, x.part(), first);
            x.undo();
        }
        ReignLadders y = new ReignLadders();
        for (int reign = 0; reign < 10; reign++) {
            y.reign(reign / 2, REIGN, 10, 0, 9);
        }
        y.sky(8, 1, 0, 0, 0, 0);
        Due.text(y, 0, "C:1?r=8");
        Edge.is("the last alone", y.part(), 9);
    }

    private static void oneSideIsEnough() {
        for (int side = 0; side <= 1; side++) {
            ReignLadders x = Worlds.two();
            Worlds.skyIn(x, 0, 0);
            if (side == 0) {
                x.ring(1, 1, -1999, 0);
            } else {
                x.letter(1, 1, 0, 1, 0);
            }
            Edge.is("believed by both", x.part(), NONE);
            Due.text(x, 1, "B:0?r=1");
            Edge.is("by side " + side, x.part(), 1);
        }
    }

    private static void spansOverAllLaddersPart() {
        ReignLadders x = Worlds.two();
        x.reign(0, REIGN, 10, 0, 0);
        x.sky(0, 1, 5, 0, 9, 0);
        Edge.is("alike", x.part(), NONE);
        x.wish(0, 1, 1, 1, 0);
        Edge.is("alike, and a WISH", x.part(), NONE);
        x.letter(2, 1, 1, 1, 0);
        Worlds.skyIn(x, 1, 18);
        Edge.is("alike, and cut off", x.part(), NONE);
        Due.text(x, 1, "B:0?k=3");
        Edge.is("one is not cut off", x.part(), 0);
        x.strike(1);
        Due.text(x, 0, "B:0?k=3");
        Edge.is("nor the other", x.part(), 0);
    }

    private static void withoutALadderOfOne() {
        ReignLadders x = Worlds.none();
        Due.text(x, 1, "B:0?k=2");
        Edge.is("-9999 is unlike a year", x.part(), 0);
        Due.text(x, 0, "B:0?k=2");
        Edge.is("a LADDER of both", x.part(), NONE);
        x.strike(1);
        Edge.is("a year is unlike -9999", x.part(), 0);
    }

    private static void partIsByEditionNine() {
        ReignLadders x = Worlds.two();
        x.ring(1, 1, 0, 9);
        Due.text(x, 0, "B:0");
        Edge.is("a RING from edition 9", x.part(), 1);
        ReignLadders y = new ReignLadders();
        y.reign(0, REIGN, 10, 0, 0);
        y.reign(0, REIGN, 10, 0, 9);
        Due.text(y, 0, "C:1");
        Edge.is("a REIGN from edition 9", y.part(), 0);
    }

    public static void main(String[] args) {
        Edge.holds(22, "UNKNOWN: school", EdgesOfDoubtsTest::heldOfSchools);
        Edge.holds(22, "UNKNOWN: also reign", EdgesOfDoubtsTest::heldOfReigns);
        Edge.holds(22, "OUTSIDE: edition", EdgesOfDoubtsTest::heldOfEditions);
        Edge.holds(22, "OUTSIDE: also side", EdgesOfDoubtsTest::heldOfSides);
        Edge.holds(22, "school, edition, reign, side", EdgesOfDoubtsTest::heldRefusesSchoolThenEditionThenReignThenSide);
        Edge.holds(22, "0: nothing holds it", EdgesOfDoubtsTest::nothingHoldsIt);
        Edge.holds(22, "0: there is no LADDER", EdgesOfDoubtsTest::heldWithoutALadder);
        Edge.holds(22, "0: it is not KNOWN", EdgesOfDoubtsTest::heldOfWhatIsNotKnown);
        Edge.holds(22, "as bits of TIES, the first to the eighth", EdgesOfDoubtsTest::heldAsBits);
        Edge.holds(22, "TIES (believed ones)", EdgesOfDoubtsTest::onlyBelievedOnesHold);
        Edge.holds(22, "that end of its SPAN, over all LADDERS", EdgesOfDoubtsTest::heldOverAllLadders);
        Edge.holds(23, "UNKNOWN: school", EdgesOfDoubtsTest::doubtOfSchools);
        Edge.holds(23, "OUTSIDE: edition", EdgesOfDoubtsTest::doubtOfEditions);
        Edge.holds(23, "OUTSIDE: also what", EdgesOfDoubtsTest::doubtOfWhat);
        Edge.holds(23, "STATE: it was done 10 times", EdgesOfDoubtsTest::doubtIsDoneTenTimes);
        Edge.holds(23, "STATE: ever (it counts on, whatever is read)", EdgesOfDoubtsTest::doubtIsDoneTenTimesEver);
        Edge.holds(23, "refused ones change nothing", EdgesOfDoubtsTest::refusedDoubtsAreNotDone);
        Edge.holds(23, "school, edition, what, STATE", EdgesOfDoubtsTest::doubtRefusesSchoolThenEditionThenWhatThenState);
        Edge.holds(23, "0 where there is a LADDER", EdgesOfDoubtsTest::doubtOfALadderIsNothing);
        Edge.holds(23, "all of eight", EdgesOfDoubtsTest::evenAllAreDoubted);
        Edge.holds(23, "the fewest TIES", EdgesOfDoubtsTest::theFewestAheadOfTheLeastBits);
        Edge.holds(23, "of like ones of least bits", EdgesOfDoubtsTest::ofLikeOnesTheLeastBits);
        Edge.holds(23, "TIES (believed ones)", EdgesOfDoubtsTest::onlyBelievedOnesAreDoubted);
        Edge.holds(23, "NONE: even without all, which no lists are", EdgesOfDoubtsTest::withoutAllThereIsALadder);
        Edge.holds(24, "UNKNOWN: school", EdgesOfDoubtsTest::floatsOfSchools);
        Edge.holds(24, "OUTSIDE: edition", EdgesOfDoubtsTest::floatsOfEditions);
        Edge.holds(24, "UNKNOWN ahead of OUTSIDE", EdgesOfDoubtsTest::floatsRefusesUnknownFirst);
        Edge.holds(24, "as bits, none to all ten", EdgesOfDoubtsTest::allOrNoneFloat);
        Edge.holds(24, "joined by steps", EdgesOfDoubtsTest::allAreJoinedStepByStep);
        Edge.holds(24, "REIGNS that are KNOWN", EdgesOfDoubtsTest::onlyWhatIsKnownFloats);
        Edge.holds(24, "REIGNS that are KNOWN, the first is not", EdgesOfDoubtsTest::theFirstIsNotKnown);
        Edge.holds(24, "that neither a SKY nor a RING holds", EdgesOfDoubtsTest::oneHoldsOnlyItsOwn);
        Edge.holds(24, "by believed ones", EdgesOfDoubtsTest::onlyBelievedOnesHoldAReign);
        Edge.holds(25, "UNKNOWN: school", EdgesOfDoubtsTest::openOfSchools);
        Edge.holds(25, "OUTSIDE: edition", EdgesOfDoubtsTest::openOfEditions);
        Edge.holds(25, "UNKNOWN ahead of OUTSIDE", EdgesOfDoubtsTest::openRefusesUnknownFirst);
        Edge.holds(25, "NONE: there is no LADDER", EdgesOfDoubtsTest::openWithoutALadder);
        Edge.holds(25, "of all REIGNS that are KNOWN, none to ten", EdgesOfDoubtsTest::fromNothingToAll);
        Edge.holds(25, "of their SPANS over all LADDERS", EdgesOfDoubtsTest::openOverAllLadders);
        Edge.holds(26, "NONE: nowhere", EdgesOfDoubtsTest::partOfNothing);
        Edge.holds(26, "the first REIGN (of least number)", EdgesOfDoubtsTest::theLeastAndTheGreatestNumber);
        Edge.holds(26, "whose SPANS are unlike", EdgesOfDoubtsTest::oneSideIsEnough);
        Edge.holds(26, "whose SPANS over all LADDERS are unlike", EdgesOfDoubtsTest::spansOverAllLaddersPart);
        Edge.holds(26, "(-9999, too)", EdgesOfDoubtsTest::withoutALadderOfOne);
        Edge.holds(26, "by EDITION 9", EdgesOfDoubtsTest::partIsByEditionNine);
        Edge.end();
    }
}
