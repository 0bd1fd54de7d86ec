/** Promises 20 and 21, each sentence that names an edge: can, span, and what a LADDER is. */
public final class EdgesOfLaddersTest {
    private static final int UNKNOWN = Edge.UNKNOWN, OUTSIDE = Edge.OUTSIDE, YEAR_UNKNOWN = Edge.YEAR_UNKNOWN,
            YEAR_OUTSIDE = Edge.YEAR_OUTSIDE, NO_SPAN = Edge.NO_SPAN;
    private static final int REIGN = 0, BESIDE = 1, LEFT = 2, MISREAD = 3, RULED = 4, BROKEN = 5, DOUBLED = 6;

    // ---- the objects that are asked

    private static final int[] YEARS = {-700, -1, 0, 1, 700};

    private interface Telling {
        void tell(ReignLadders x);
    }

    /** Whether there is a LADDER of Worlds.two(), when something more is told. */
    private static void can(String what, int want, Telling telling) {
        ReignLadders x = Worlds.two();
        telling.tell(x);
        Edge.is("can(0, 9): " + what, x.can(0, 9), want);
        Edge.is("span(0, 9, 0, 0) is -9999: " + what, x.span(0, 9, 0, 0) == NO_SPAN ? 0 : 1, want);
    }

    // ---- promise 20

    private static final Asked CAN = new Asked(Worlds::two, ReignLadders::can, UNKNOWN, OUTSIDE);

    private static void canOfSchools() {
        CAN.schools(1, 1);
    }

    private static void canOfEditions() {
        CAN.editions(1, 1);
    }

    private static void canRefusesUnknownFirst() {
        CAN.schoolFirst();
    }

    private static void canOfNothing() {
        for (int edition = 0; edition <= 9; edition++) {
            Edge.is("can(0, " + edition + ")", new ReignLadders().can(0, edition), 1);
        }
        Edge.taken(Worlds::none, "no LADDER", x -> x.can(0, 0), 0);
    }

    private static void noneBeginsAheadOfTheFirstYear() {
        can("-2000 by a SKY", 1, x -> x.sky(0, 1, -2000, -2000, -2000, 0));
        can("-2001 by a SKY", 0, x -> x.sky(0, 2, -2000, -2000, -2000, 0));
        can("-2098 by a SKY", 0, x -> x.sky(0, 99, -2000, -2000, -2000, 0));
        for (int year = 1; year <= 2; year++) {
            int its = year;
            can("a LETTER of year " + year, 2 - year, x -> {
                Worlds.skyIn(x, 0, -2000);
                x.letter(1, its, 0, 1, 0);
            });
            can("a TIE of year " + year, 2 - year, x -> {
                Worlds.skyIn(x, 0, -2000);
                x.tie(1, its, 0, 1, 0, 0);
            });
            can("a TIE of year " + (20 + year) + " by SLACK", 2 - year, x -> {
                Worlds.skyIn(x, 0, -2000);
                x.tie(1, 20 + its, 0, 1, 20, 0);
            });
            can("BESIDE " + (9 + year), 2 - year, x -> {
                Worlds.skyIn(x, 0, -2000);
                x.reign(0, BESIDE, 60, 9 + its, 0);
            });
        }
    }

    private static void noneBeginsBehindTheLastYear() {
        can("2000 by a SKY", 1, x -> x.sky(0, 1, 2000, 2000, 2000, 0));
        can("2000 by a RING", 1, x -> x.ring(0, 1, 2000, 0));
        can("2000 behind LEFT", 1, x -> {
            x.reign(2, LEFT, 60, 0, 0);
            x.reign(2, REIGN, 60, 0, 0);
            x.ring(2, 1, 2000, 0);
        });
        can("2001 behind BROKEN", 0, x -> {
            x.reign(2, BROKEN, 60, 0, 0);
            x.reign(2, REIGN, 60, 0, 0);
            x.ring(2, 1, 2000, 0);
        });
        for (int year = 1; year <= 2; year++) {
            int its = year;
            can("a LETTER of year " + year, 2 - year, x -> {
                Worlds.skyIn(x, 0, 2000);
                x.letter(0, its, 1, 1, 0);
            });
            can("a TIE of year " + year, 2 - year, x -> {
                Worlds.skyIn(x, 0, 2000);
                x.tie(0, its, 1, 1, 0, 0);
            });
            can("a TIE of year " + (20 + year) + " by SLACK", 2 - year, x -> {
                Worlds.skyIn(x, 0, 2000);
                x.tie(0, 20 + its, 1, 1, 20, 0);
            });
            can("behind 10 years from " + (1989 + year), 2 - year, x -> {
                Worlds.skyIn(x, 0, 1989 + its);
                x.reign(0, REIGN, 60, 0, 0);
            });
        }
    }

    private static void theLastMayEndBehindTheLastYear() {
        ReignLadders x = new ReignLadders();
        x.reign(0, BROKEN, 60, 0, 0);
        x.ring(0, 99, 2000, 0);
        Edge.is("the greatest", x.span(0, 0, 0, 1), 2000);
        Edge.is("the least", x.span(0, 0, 0, 0), 1902);
    }

    private static void tiesHoldMoreOrLessBySlack() {
        for (int slack : new int[] {0, 1, 20}) {
            for (int[] places : new int[][] {{1, 1}, {99, 1}, {1, 99}, {99, 99}, {3, 2}}) {
                for (int year : YEARS) {
                    int even = year + places[0] - places[1];
                    for (int late = slack - 1; late <= slack + 1; late++) {
                        aTieOf(places, slack, year, even + late, Math.abs(late) <= slack ? 1 : 0);
                        aTieOf(places, slack, year, even - late, Math.abs(late) <= slack ? 1 : 0);
                    }
                }
            }
        }
    }

    private static void aTieOf(int[] places, int slack, int a, int b, int want) {
        can("TIE " + places[0] + ", " + places[1] + ", " + slack + " of " + a + " and " + b, want, x -> {
            Worlds.skyIn(x, 0, a);
            Worlds.skyIn(x, 1, b);
            x.tie(0, places[0], 1, places[1], slack, 0);
        });
    }

    private static void ringsAreNotAheadOfTheirYear() {
        for (int place : new int[] {1, 2, 99}) {
            for (int year : YEARS) {
                for (int reign = 0; reign <= 1; reign++) {
                    aRingOf(reign, place, year, year + place - 1, 1);
                    aRingOf(reign, place, year, year + place, 0);
                }
            }
        }
        can("RING of the first year", 1, x -> x.ring(0, 1, -2000, 0));
        can("RING of the last year", 1, x -> x.ring(0, 99, 2000, 0));
    }

    private static void aRingOf(int reign, int place, int begins, int year, int want) {
        can("RING " + place + " in " + year + " of " + begins, want, x -> {
            Worlds.skyIn(x, 1 - reign, 0);
            Worlds.skyIn(x, reign, begins);
            x.ring(reign, place, year, 0);
        });
        can("RING " + place + " in " + year + " of " + begins + ", the SKIES told otherwise", want, x -> {
            Worlds.skyIn(x, reign, begins);
            Worlds.skyIn(x, 1 - reign, 0);
            x.ring(reign, place, year, 0);
        });
    }

    private static void lettersAreNotBehindTheYear() {
        for (int[] places : new int[][] {{1, 1}, {99, 1}, {1, 99}, {3, 2}}) {
            for (int year : YEARS) {
                for (int late = -1; late <= 1; late++) {
                    int begins = year + places[0] - places[1] + late;
                    can("LETTER " + places[0] + ", " + places[1] + ": " + late, late >= 0 ? 1 : 0, x -> {
                        Worlds.skyIn(x, 0, year);
                        Worlds.skyIn(x, 1, begins);
                        x.letter(0, places[0], 1, places[1], 0);
                    });
                }
            }
        }
    }

    private static void skiesAreOneOfTheirYears() {
        for (int year = 0; year <= 8; year++) {
            int its = year;
            can("SKY 1, 4, 7 in " + year, year % 3 == 1 ? 1 : 0, x -> {
                x.sky(0, 1, 4, 7, 1, 0);
                x.sky(0, 99, its + 98, its + 98, its + 98, 0);
            });
        }
    }

    /** REIGN 0 of a kind leaves a LADDER if it lasts so many years as it may, and in no other case. */
    private static void lengths(int kind, int n, int m, int count, int[] may, int upTo) {
        for (int years = -2; years <= upTo; years++) {
            ReignLadders x = new ReignLadders();
            x.reign(0, kind, n, m, 0);
            x.reign(0, REIGN, 1, 0, 0);
            Due.text(x, 0, "C:" + count);
            Worlds.skyIn(x, 0, -30);
            Worlds.skyIn(x, 1, -30 + years);
            Edge.is("kind " + kind + ", n " + n + ", m " + m + ", COUNT " + count + ", " + years + " years", x.can(0, 0),
                    Edge.isOneOf(may, years) ? 1 : 0);
        }
    }

    private static void aReignEndsWhenTheNextBegins() {
        for (int kind : new int[] {REIGN, RULED}) {
            lengths(kind, 1, 0, 0, Edge.from(1, 1), 3);
            lengths(kind, 1, 0, 1, Edge.from(0, 0), 3);
            lengths(kind, 60, 60, 0, Edge.from(60, 60), 62);
            lengths(kind, 60, 60, 1, Edge.from(59, 59), 62);
        }
    }

    private static void leftEndsFromItsBegin() {
        lengths(LEFT, 1, 0, 0, Edge.from(0, 1), 3);
        lengths(LEFT, 1, 0, 1, Edge.from(0, 0), 3);
        lengths(LEFT, 60, 60, 0, Edge.from(0, 60), 62);
        lengths(LEFT, 60, 0, 1, Edge.from(0, 59), 62);
    }

    private static void misreadEndsInOneOfTwoYears() {
        lengths(MISREAD, 20, 10, 0, new int[] {10, 20}, 22);
        lengths(MISREAD, 20, 10, 1, new int[] {9, 19}, 22);
        lengths(MISREAD, 3, 0, 0, new int[] {0, 3}, 5);
        lengths(MISREAD, 3, 0, 1, new int[] {0, 2}, 5);
        lengths(MISREAD, 3, 60, 0, new int[] {3, 60}, 62);
        lengths(MISREAD, 1, 0, 1, new int[] {0}, 2);
        lengths(MISREAD, 7, 7, 0, new int[] {7}, 9);
    }

    private static void threeMisreadEndInEightYears() {
        for (int years = 0; years <= 80; years++) {
            ReignLadders x = new ReignLadders();
            x.reign(0, MISREAD, 11, 1, 0);
            x.reign(0, DOUBLED, 20, 7, 0);
            x.reign(0, MISREAD, 2, 42, 0);
            x.reign(0, REIGN, 1, 0, 0);
            Worlds.skyIn(x, 0, 50);
            Worlds.skyIn(x, 3, 50 + years);
            boolean one = years >= 3 && years <= 73 && years % 10 == 3;
            Edge.is("of 1 or 11, 0 or 20, 2 or 42: " + years, x.can(0, 0), one ? 1 : 0);
        }
    }

    private static void aReadingThatCannotBe() {
        for (int from = -21; from <= -9; from++) {
            ReignLadders x = new ReignLadders();
            x.reign(0, REIGN, 5, 0, 0);
            x.reign(0, MISREAD, 20, 10, 0);
            x.reign(0, REIGN, 1, 0, 0);
            Worlds.skyIn(x, 1, -30);
            x.ring(2, 1, from, 0);
            int want = from <= -20 ? -20 : from <= -10 ? -10 : NO_SPAN;
            Edge.is("not ahead of " + from, x.span(0, 0, 2, 0), want);
            Edge.is("not ahead of " + from + ", greatest", x.span(0, 0, 2, 1), from <= -10 ? -10 : NO_SPAN);
            Edge.is("not ahead of " + from + ", the first", x.span(0, 0, 0, 1), from <= -10 ? -35 : NO_SPAN);
        }
    }

    private static void aReadingThatTiesRuleOut() {
        ReignLadders x = Worlds.two();
        x.reign(0, MISREAD, 10, 0, 0);
        x.reign(0, REIGN, 1, 0, 0);
        x.tie(0, 1, 1, 1, 0, 0);
        Worlds.skyIn(x, 0, 40);
        Edge.span(x, 3, 50, 60);
        x.letter(2, 2, 3, 1, 0);
        Edge.span(x, 3, 60, 60);
        x.undo();
        x.letter(3, 1, 2, 10, 0);
        Edge.span(x, 3, 50, 50);
        x.letter(2, 2, 3, 1, 0);
        Edge.span(x, 3, NO_SPAN, NO_SPAN);
        Edge.is("neither is left", x.can(0, 0), 0);
        x.undo();
        x.undo();
        x.tie(2, 6, 3, 1, 4, 0);
        Edge.is("neither is left by a TIE", x.can(0, 0), 0);
        x.undo();
        x.tie(2, 6, 3, 1, 5, 0);
        Edge.span(x, 3, 50, 60);
    }

    private static void brokenEndsFromOneToSixty() {
        for (int count = 0; count <= 1; count++) {
            lengths(BROKEN, 1, 0, count, Edge.from(1, 60), 62);
            lengths(BROKEN, 60, 60, count, Edge.from(1, 60), 62);
        }
    }

    private static void doubledEndsAtOnceOrInTime() {
        lengths(DOUBLED, 5, 3, 0, new int[] {0, 5}, 7);
        lengths(DOUBLED, 5, 3, 1, new int[] {0, 4}, 7);
        lengths(DOUBLED, 1, 60, 1, new int[] {0}, 61);
    }

    private static void besideBeginsAheadOfTheEnd() {
        for (int m : new int[] {0, 1, 12}) {
            for (int begins = -4; begins <= 11; begins++) {
                ReignLadders x = new ReignLadders();
                x.reign(0, REIGN, 10, 0, 0);
                x.reign(0, BESIDE, 12, m, 0);
                x.reign(0, REIGN, 10, 0, 0);
                Worlds.skyIn(x, 0, 0);
                Worlds.skyIn(x, 1, begins);
                Edge.is("BESIDE " + m + " in " + begins, x.can(0, 0), begins == 10 - m ? 1 : 0);
                Edge.is("and behind it", x.span(0, 0, 2, 0), begins == 10 - m ? 22 - m : NO_SPAN);
            }
        }
    }

    private static void theLongestListsHaveALadder() {
        ReignLadders x = new ReignLadders();
        for (int reign = 0; reign < 10; reign++) {
            x.reign(0, REIGN, 60, 60, 0);
        }
        Edge.is("can(0, 0)", x.can(0, 0), 1);
        Edge.is("the first by itself", x.span(0, 0, 0, 1), 2000 - 540);
        Edge.is("the last by itself", x.span(0, 0, 9, 0), -2000 + 540);
        ReignLadders y = new ReignLadders();
        y.reign(0, REIGN, 1, 0, 0);
        for (int reign = 1; reign < 10; reign++) {
            y.reign(0, BESIDE, 60, 60, 0);
        }
        Edge.is("BESIDE, 59 years ahead of the first", y.span(0, 0, 1, 0), -2000);
        Edge.is("the first of these", y.span(0, 0, 0, 0), -2000 + 59);
        Edge.is("the first of these, greatest", y.span(0, 0, 0, 1), 2000);
        Edge.is("the last of these", y.span(0, 0, 9, 1), 2000 - 59);
    }

    private static void tiesAreKnownFromTheirEdition() {
        for (int edition = 0; edition <= 9; edition++) {
            int from = edition;
            Telling[] ways = {x -> x.tie(0, 1, 1, 1, 0, from), x -> x.sky(0, 1, 7, 7, 7, from),
                x -> x.ring(0, 1, 6, from), x -> x.letter(1, 1, 0, 1, from)};
            for (int way = 0; way < ways.length; way++) {
                ReignLadders x = Worlds.two();
                Worlds.skyIn(x, 0, 5);
                x.ring(1, 1, 6, 0);
                ways[way].tell(x);
                for (int by = 0; by <= 9; by++) {
                    Edge.is("sort " + way + " from " + from + ", by " + by, x.can(0, by), by < from ? 1 : 0);
                }
            }
        }
    }

    private static void tiesAreKnownOnlyWithTheirReigns() {
        Telling[] ways = {x -> x.tie(0, 1, 1, 1, 0, 0), x -> x.tie(1, 1, 0, 1, 0, 0), x -> x.letter(0, 2, 1, 1, 0),
            x -> x.letter(1, 2, 0, 1, 0), x -> x.sky(1, 1, 5, 5, 5, 0), x -> x.ring(1, 2, 2000, 0)};
        int[][] want = {{5, 5}, {5, 5}, {-2000, 1999}, {-1999, 2000}, {-2000, 2000}, {-2000, 2000}};
        for (int edition = 1; edition <= 9; edition++) {
            for (int way = 0; way < ways.length; way++) {
                ReignLadders x = new ReignLadders();
                x.reign(0, REIGN, 10, 0, 0);
                x.reign(1, REIGN, 10, 0, edition);
                ways[way].tell(x);
                if (way < 2) {
                    x.sky(1, 1, 5, 5, 5, 0);
                }
                Edge.is("way " + way + ", ahead of " + edition, x.span(0, edition - 1, 0, 0), -2000);
                Edge.is("way " + way + ", ahead of " + edition + ", greatest", x.span(0, edition - 1, 0, 1), 2000);
                Edge.is("way " + way + ", from " + edition, x.span(0, edition, 0, 0), want[way][0]);
                Edge.is("way " + way + ", from " + edition + ", greatest", x.span(0, edition, 0, 1), want[way][1]);
                Edge.is("way " + way + ", what holds it ahead", x.held(0, edition - 1, 0, 1), 0);
            }
            ReignLadders x = new ReignLadders();
            x.reign(0, REIGN, 10, 0, 0);
            x.reign(0, REIGN, 10, 0, edition);
            x.sky(1, 1, 5, 5, 5, 0);
            x.ring(1, 1, 6, 0);
            Edge.is("TIES that do not go along, ahead of " + edition, x.can(0, edition - 1), 1);
            Edge.is("TIES that do not go along, from " + edition, x.can(0, edition), 0);
        }
    }

    // ---- promise 21

    private static final Asked SPAN = new Asked(Worlds::two, (x, school, edition) -> x.span(school, edition, 0, 0),
            YEAR_UNKNOWN, YEAR_OUTSIDE);

    private static void spanOfSchools() {
        SPAN.schools(-2000, -2000);
    }

    private static void spanOfReigns() {
        Edge.ends(Worlds::two, 0, 1, (x, reign) -> x.span(0, 9, reign, 0), -2000, -2000, YEAR_UNKNOWN);
        Edge.ends(Worlds::ten, 0, 9, (x, reign) -> x.span(0, 9, reign, 1), 1990, 2000, YEAR_UNKNOWN);
        Edge.ends(Worlds::none, 0, 1, (x, reign) -> x.span(0, 9, reign, 1), NO_SPAN, NO_SPAN, YEAR_UNKNOWN);
    }

    private static void spanOfEditions() {
        SPAN.editions(-2000, -2000);
    }

    private static void spanOfSides() {
        Edge.ends(Worlds::two, 0, 1, (x, side) -> x.span(0, 9, 0, side), -2000, 2000, YEAR_OUTSIDE);
        Edge.ends(Worlds::none, 0, 1, (x, side) -> x.span(0, 9, 0, side), NO_SPAN, NO_SPAN, YEAR_OUTSIDE);
    }

    private static void spanRefusesSchoolThenEditionThenReignThenSide() {
        SPAN.schoolFirst();
        Asked.aheadOfAll(Worlds::two, (x, school, edition) -> x.span(school, edition, 2, 0), YEAR_UNKNOWN,
                YEAR_OUTSIDE);
        Asked.aheadOfAll(Worlds::two, (x, school, edition) -> x.span(school, edition, 0, 2), YEAR_UNKNOWN,
                YEAR_OUTSIDE);
        Asked.aheadOfAll(Worlds::two, (x, school, edition) -> x.span(school, edition, -1, -1), YEAR_UNKNOWN,
                YEAR_OUTSIDE);
        Edge.refused(Worlds::two, "a reign ahead of a side", x -> x.span(0, 9, 2, 2), YEAR_UNKNOWN);
        Edge.refused(Worlds::two, "a reign ahead of a side", x -> x.span(0, 9, -1, -1), YEAR_UNKNOWN);
    }

    private static void spanWithoutALadder() {
        for (int reign = 0; reign <= 1; reign++) {
            int its = reign;
            for (int side = 0; side <= 1; side++) {
                int end = side;
                Edge.taken(Worlds::none, "reign " + reign, x -> x.span(0, 0, its, end), NO_SPAN);
                Edge.taken(Worlds::none, "reign " + reign + " of 1", x -> x.span(1, 9, its, end), NO_SPAN);
            }
        }
    }

    private static void spanOfWhatIsNotKnown() {
        for (int from = 0; from <= 9; from++) {
            ReignLadders x = new ReignLadders();
            x.reign(0, REIGN, 10, 0, from);
            for (int by = 0; by <= 9; by++) {
                Edge.is("from " + from + ", by " + by, x.span(0, by, 0, 0), by < from ? NO_SPAN : -2000);
                Edge.is("from " + from + ", by " + by + ", greatest", x.span(1, by, 0, 1), by < from ? NO_SPAN : 2000);
            }
        }
    }

    private static void whatIsNotKnownHoldsNothing() {
        for (int from = 1; from <= 9; from++) {
            ReignLadders x = Worlds.two();
            x.reign(0, REIGN, 10, 0, from);
            Edge.is("ahead of " + from, x.span(0, from - 1, 0, 1), 2000);
            Edge.is("from " + from, x.span(0, from, 0, 1), 1990);
        }
    }

    private static void spanOverAllLadders() {
        ReignLadders x = Worlds.two();
        x.reign(0, MISREAD, 20, 10, 0);
        x.reign(0, REIGN, 10, 0, 0);
        x.sky(0, 1, 5, -5, 0, 0);
        Edge.span(x, 0, -5, 5);
        Edge.span(x, 2, 5, 15);
        Edge.span(x, 3, 15, 35);
        x.sky(3, 1, 30, 15, 16, 0);
        Edge.span(x, 0, -5, 0);
        Edge.span(x, 3, 15, 30);
        Edge.span(x, 1, -2000, 2000);
        x.undo();
        x.sky(3, 1, 19, 15, 18, 0);
        Edge.span(x, 0, -5, -5);
        Edge.span(x, 3, 15, 15);
    }

    /** Two REIGNS that are held leave all years to one that is free, and no more. */
    private static void spanOfWhatIsFreeBesideTwoSkies() {
        ReignLadders x = Worlds.two();
        x.reign(2, LEFT, 60, 0, 0);
        x.reign(1, BROKEN, 10, 0, 0);
        x.reign(1, REIGN, 10, 0, 0);
        x.sky(0, 1, 0, 5, 7, 0);
        x.sky(1, 1, 1950, 1951, 1980, 0);
        Edge.span(x, 2, -2000, 2000);
        Edge.span(x, 4, 1961, 2000);
        x.undo();
        x.undo();
        x.sky(4, 1, -1990, -1975, -1975, 0);
        x.sky(0, 1, 0, 5, 7, 0);
        Edge.span(x, 3, -1990, -1976);
        Edge.span(x, 1, -2000, -1986);
    }

    private static void spanBySchoolsThatBelieveOtherSkies() {
        ReignLadders x = Worlds.two();
        Worlds.skyIn(x, 0, 4);
        Worlds.skyIn(x, 1, 6);
        Due.text(x, 1, "B:0");
        for (int again = 0; again < 2; again++) {
            Edge.is("two SKIES, the first", x.span(0, 0, 0, 1), 4);
            Edge.is("no SKY, the first", x.span(1, 0, 0, 1), 2000);
            Edge.is("two SKIES, the second", x.span(0, 0, 1, 0), 6);
            Edge.is("no SKY, the second", x.span(1, 0, 1, 0), -2000);
        }
        Due.text(x, 1, "B:1?r=1");
        Edge.is("one SKY, the first", x.span(1, 0, 0, 1), 2000);
        Edge.is("one SKY, the second", x.span(1, 0, 1, 1), 6);
    }

    public static void main(String[] args) {
        Edge.holds(20, "UNKNOWN: school", EdgesOfLaddersTest::canOfSchools);
        Edge.holds(20, "OUTSIDE: edition", EdgesOfLaddersTest::canOfEditions);
        Edge.holds(20, "UNKNOWN ahead of OUTSIDE", EdgesOfLaddersTest::canRefusesUnknownFirst);
        Edge.holds(20, "CAN: 1, 0", EdgesOfLaddersTest::canOfNothing);
        Edge.holds(20, "BEGINS (-2000 ..", EdgesOfLaddersTest::noneBeginsAheadOfTheFirstYear);
        Edge.holds(20, ".. to 2000)", EdgesOfLaddersTest::noneBeginsBehindTheLastYear);
        Edge.holds(20, "only where it BEGINS", EdgesOfLaddersTest::theLastMayEndBehindTheLastYear);
        Edge.holds(20, "TIE: more or less by SLACK", EdgesOfLaddersTest::tiesHoldMoreOrLessBySlack);
        Edge.holds(20, "RING: it is not ahead of a told year", EdgesOfLaddersTest::ringsAreNotAheadOfTheirYear);
        Edge.holds(20, "LETTER: it is not behind the y-th year of b", EdgesOfLaddersTest::lettersAreNotBehindTheYear);
        Edge.holds(20, "SKY: it is one of one to three told years", EdgesOfLaddersTest::skiesAreOneOfTheirYears);
        Edge.holds(20, "each begins when the one ahead ends", EdgesOfLaddersTest::aReignEndsWhenTheNextBegins);
        Edge.holds(20, "LEFT 0 to what a REIGN lasts", EdgesOfLaddersTest::leftEndsFromItsBegin);
        Edge.holds(20, "MISREAD one or the other", EdgesOfLaddersTest::misreadEndsInOneOfTwoYears);
        Edge.holds(20, "at most 3 are MISREAD: in eight ways", EdgesOfLaddersTest::threeMisreadEndInEightYears);
        Edge.holds(20, "MISREAD, where one cannot be", EdgesOfLaddersTest::aReadingThatCannotBe);
        Edge.holds(20, "MISREAD, where TIES rule one out", EdgesOfLaddersTest::aReadingThatTiesRuleOut);
        Edge.holds(20, "BROKEN 1 to 60", EdgesOfLaddersTest::brokenEndsFromOneToSixty);
        Edge.holds(20, "DOUBLED as MISREAD with 0 for m", EdgesOfLaddersTest::doubledEndsAtOnceOrInTime);
        Edge.holds(20, "BESIDE: m ahead of it", EdgesOfLaddersTest::besideBeginsAheadOfTheEnd);
        Edge.holds(20, "10 at most, of 60 years each", EdgesOfLaddersTest::theLongestListsHaveALadder);
        Edge.holds(20, "TIES from that EDITION or ahead of it", EdgesOfLaddersTest::tiesAreKnownFromTheirEdition);
        Edge.holds(20, "(of REIGNS that are KNOWN)", EdgesOfLaddersTest::tiesAreKnownOnlyWithTheirReigns);
        Edge.holds(21, "-9001: school", EdgesOfLaddersTest::spanOfSchools);
        Edge.holds(21, "-9001: reign", EdgesOfLaddersTest::spanOfReigns);
        Edge.holds(21, "-9002: edition", EdgesOfLaddersTest::spanOfEditions);
        Edge.holds(21, "-9002: (also side)", EdgesOfLaddersTest::spanOfSides);
        Edge.holds(21, "school, edition, reign, side", EdgesOfLaddersTest::spanRefusesSchoolThenEditionThenReignThenSide);
        Edge.holds(21, "-9999: there is no LADDER", EdgesOfLaddersTest::spanWithoutALadder);
        Edge.holds(21, "-9999: it is not KNOWN", EdgesOfLaddersTest::spanOfWhatIsNotKnown);
        Edge.holds(21, "only REIGNS from that EDITION or ahead of it", EdgesOfLaddersTest::whatIsNotKnownHoldsNothing);
        Edge.holds(21, "in some LADDER, of all", EdgesOfLaddersTest::spanOverAllLadders);
        Edge.holds(21, "BEGINS (-2000 to 2000), beside two SKIES", EdgesOfLaddersTest::spanOfWhatIsFreeBesideTwoSkies);
        Edge.holds(21, "TIES that are believed, none of two SKIES", EdgesOfLaddersTest::spanBySchoolsThatBelieveOtherSkies);
        Edge.end();
    }
}
