/** Promises 13 to 19, each sentence that names an edge: letters, blank, fault, text, strike, counts, believes. */
public final class EdgesOfSchoolsTest {
    private static final int UNKNOWN = Edge.UNKNOWN, OUTSIDE = Edge.OUTSIDE, STATE = Edge.STATE, FULL = Edge.FULL;
    private static final int HIGHEST_CODE = 126, WORD = 8, PAGE = 60, TEXTS = 6;

    // ---- the objects that are asked

    private static ReignLadders page(String letters) {
        ReignLadders x = new ReignLadders();
        Due.write(x, letters);
        return x;
    }

    /** So many letters, none of which a text begins with. */
    private static ReignLadders pageOf(int letters) {
        return page("a".repeat(letters));
    }

    /** So many texts of a school, and letters on the page. */
    private static ReignLadders texts(int school, int many, String letters) {
        ReignLadders x = new ReignLadders();
        for (int text = 0; text < many; text++) {
            Due.text(x, school, "C:" + text % 2);
        }
        Due.write(x, letters);
        return x;
    }

    private static ReignLadders two() {
        ReignLadders x = Worlds.two();
        x.ring(0, 1, 0, 0);
        x.ring(1, 1, 0, 0);
        return x;
    }

    /** Ten REIGNS in LAND 4, eight RINGS of the last. */
    private static ReignLadders most() {
        ReignLadders x = new ReignLadders();
        for (int reign = 0; reign < 10; reign++) {
            x.reign(4, 0, 60, 0, 0);
        }
        for (int ring = 0; ring < 8; ring++) {
            x.ring(9, 99, 0, 0);
        }
        return x;
    }

    // ---- promise 13

    /** Letters A, but for one. */
    private static long wordWith(int place, long code) {
        long all = Due.word("AAAAAAAA") & ~(255L << 8 * place);
        return all | code << 8 * place;
    }

    private static void upToEightLetters() {
        Edge.taken(ReignLadders::new, "none", x -> x.letters(0), 0);
        for (int letters = 1; letters <= WORD; letters++) {
            long w = Due.word("AAAAAAAA".substring(0, letters));
            Edge.taken(ReignLadders::new, letters + " letters", x -> x.letters(w), letters);
            Edge.taken(() -> pageOf(9), letters + " letters behind nine", x -> x.letters(w), 9 + letters);
        }
    }

    private static void theLowestByteIsFirst() {
        ReignLadders x = new ReignLadders();
        x.letters((long) 'C' | ':' << 8 | '1' << 16);
        Edge.is("text(0)", x.text(0), 1);
    }

    private static void bytesAreNotAbove126() {
        for (int place = 0; place < WORD; place++) {
            long least = wordWith(place, 1), most = wordWith(place, HIGHEST_CODE);
            Edge.taken(ReignLadders::new, "1 at " + place, x -> x.letters(least), WORD);
            Edge.taken(ReignLadders::new, "126 at " + place, x -> x.letters(most), WORD);
            for (long code : new long[] {127, 128, 129, 254, 255}) {
                long w = wordWith(place, code);
                Edge.refused(ReignLadders::new, code + " at " + place, x -> x.letters(w), OUTSIDE);
                Edge.refused(() -> pageOf(3), code + " at " + place + " behind three", x -> x.letters(w), OUTSIDE);
            }
            long alone = 127L << 8 * place;
            Edge.refused(ReignLadders::new, "127 alone at " + place, x -> x.letters(alone), OUTSIDE);
        }
        Edge.refused(ReignLadders::new, "-1", x -> x.letters(-1), OUTSIDE);
        Edge.refused(ReignLadders::new, "the least long", x -> x.letters(Long.MIN_VALUE), OUTSIDE);
        Edge.refused(ReignLadders::new, "the greatest long", x -> x.letters(Long.MAX_VALUE), OUTSIDE);
    }

    private static void nothingStandsBehindAZero() {
        for (int place = 0; place < WORD - 1; place++) {
            long hole = wordWith(place, 0);
            Edge.refused(ReignLadders::new, "a 0 at " + place, x -> x.letters(hole), OUTSIDE);
            for (int behind = place + 1; behind < WORD; behind++) {
                long ended = place == 0 ? 0 : Due.word("AAAAAAAA".substring(0, place));
                long w = ended | 1L << 8 * behind;
                Edge.refused(ReignLadders::new, "a 0 at " + place + ", a 1 at " + behind, x -> x.letters(w), OUTSIDE);
            }
        }
        long last = wordWith(WORD - 1, 0);
        Edge.taken(ReignLadders::new, "a 0 at the last", x -> x.letters(last), WORD - 1);
    }

    private static void thePageHasSixtyLetters() {
        for (int more = 1; more <= WORD; more++) {
            long w = Due.word("AAAAAAAA".substring(0, more));
            int room = PAGE - more;
            Edge.taken(() -> pageOf(room), "60 by " + more, x -> x.letters(w), PAGE);
            Edge.refused(() -> pageOf(room + 1), "61 by " + more, x -> x.letters(w), FULL);
            Edge.refused(() -> pageOf(PAGE), "60 and " + more, x -> x.letters(w), FULL);
        }
        Edge.taken(() -> pageOf(PAGE), "60 and none", x -> x.letters(0), PAGE);
    }

    private static void lettersRefuseOutsideFirst() {
        Edge.refused(() -> pageOf(PAGE), "127", x -> x.letters(127), OUTSIDE);
        Edge.refused(() -> pageOf(PAGE), "a 0, a letter", x -> x.letters('A' << 8), OUTSIDE);
        Edge.refused(() -> pageOf(PAGE), "255 eight times", x -> x.letters(-1), OUTSIDE);
    }

    // ---- promise 14

    private static void blankTellsHowManyItHad() {
        for (int letters : new int[] {0, 1, 59, 60}) {
            ReignLadders x = pageOf(letters);
            Edge.is("of " + letters, x.blank(), letters);
            Edge.is("count(4) behind it", x.count(4), 0);
            Edge.is("once more", x.blank(), 0);
        }
    }

    private static void anEmptyPageHasRoomForSixty() {
        ReignLadders x = pageOf(PAGE);
        x.blank();
        Due.write(x, "C:1?" + "(".repeat(56));
        Edge.is("count(4)", x.count(4), PAGE);
        Edge.is("fault()", x.fault(), PAGE);
    }

    // ---- promise 15

    private static final String FACTOR = "!(lknr", DIGITS = "0123456789";

    /** What stands on the page, and the letters that a text may have behind it. */
    private static final String[][] GOES_ON = {{"", "CB"}, {"C", ":"}, {"B", ":"}, {"C:", "01"}, {"B:", "01"},
        {"C:0", "?"}, {"B:1", "?"}, {"C:1?", FACTOR}, {"C:1?!", FACTOR}, {"C:1?!!", FACTOR}, {"C:1?(", FACTOR},
        {"C:1?((", FACTOR}, {"C:1?(!", FACTOR}, {"C:1?l", "<=>"}, {"C:1?k", "<=>"}, {"C:1?n", "<=>"}, {"C:1?r", "<=>"},
        {"C:1?(r", "<=>"}, {"C:1?l<", DIGITS}, {"C:1?l=", DIGITS}, {"C:1?l>", DIGITS}, {"C:1?l<0", DIGITS + "&|"},
        {"C:1?l<9", DIGITS + "&|"}, {"C:1?l<00", "&|"}, {"C:1?l<99", "&|"}, {"C:1?l<5&", FACTOR},
        {"C:1?l<55|", FACTOR}, {"C:1?(l<5", DIGITS + "&|)"}, {"C:1?(l<55", "&|)"}, {"C:1?(l<55&", FACTOR},
        {"C:1?(l<55|", FACTOR}, {"C:1?(l<5)", "&|"}, {"C:1?((l<5)", "&|)"}, {"C:1?((l<5))", "&|"},
        {"C:1?((l<5)&k=1", DIGITS + "&|)"}, {"C:1?(l<5)&(k=1)|", FACTOR}, {"C:1?(l<5)&!", FACTOR},
        {"C:1?(l<5)|k=1", DIGITS + "&|"}};

    private static void noTextHasThatLetterThere() {
        for (String[] goesOn : GOES_ON) {
            int length = goesOn[0].length();
            for (char letter = 1; letter <= HIGHEST_CODE; letter++) {
                ReignLadders x = page(goesOn[0] + letter);
                boolean may = goesOn[1].indexOf(letter) >= 0;
                Edge.is("fault() of " + goesOn[0] + " and code " + (int) letter, x.fault(), may ? length + 1 : length);
            }
        }
    }

    private static void theFirstFaultIsTold() {
        Edge.is("of three faults", page("C:2?x<<").fault(), 2);
        Edge.is("of all letters", page("zzzz").fault(), 0);
        Edge.is("the last of 60", page("C:1?" + "!".repeat(55) + "?").fault(), 59);
        Edge.is("the first of 60", page("c:1?" + "!".repeat(56)).fault(), 0);
    }

    private static void withoutAFaultItIsHowManyThereAre() {
        Edge.is("of an empty page", new ReignLadders().fault(), 0);
        for (String[] goesOn : GOES_ON) {
            Edge.is("of " + goesOn[0], page(goesOn[0]).fault(), goesOn[0].length());
        }
    }

    private static void aTextMayBeLongerThanThePage() {
        Edge.is("of 56 brackets", page("C:1?" + "(".repeat(56)).fault(), PAGE);
        Edge.is("of 56 times not", page("B:0?" + "!".repeat(56)).fault(), PAGE);
        Edge.is("of 60 without an end", page("C:1?" + "l<1&".repeat(14)).fault(), PAGE);
        Edge.refused(() -> page("C:1?" + "l<1&".repeat(14)), "text(0) of 60 without an end", x -> x.text(0), STATE);
    }

    private static void faultChangesNothing() {
        Edge.refused(() -> page("C:1"), "fault() of a text", ReignLadders::fault, 3);
        Edge.refused(() -> page("C:1!"), "fault() of none", ReignLadders::fault, 3);
    }

    // ---- promise 16

    private static void textKnowsTwoSchools() {
        Edge.ends(() -> page("C:1"), 0, 1, ReignLadders::text, 1, 1, UNKNOWN);
    }

    private static void whatIsNoTextIsState() {
        String[] none = {"", "C", "C:", "C:2", "C:1?", "C:1?!", "C:1?l", "C:1?l<", "C:1?l<5&", "C:1?l<5|", "C:1?(",
            "C:1?(l<5", "C:1?(l<55", "C:1?((l<5)", "C:1?()", "C:1?l<555", "C:1?l<5)", "C:1?(l<5))", "C:10", "D:1", "c:1",
            " C:1", "C:1 ",
            "C:1?l<5?", "C:1C:1", "C:1?5<l", "C:1?!&l<5", "C:1?l!=5", "C:1?l<=5"};
        for (String page : none) {
            Edge.refused(() -> page(page), "\"" + page + "\" for 0", x -> x.text(0), STATE);
            Edge.refused(() -> page(page), "\"" + page + "\" for 1", x -> x.text(1), STATE);
        }
    }

    private static void theLeastAndTheLongestText() {
        String[] some = {"C:0", "C:1", "B:0", "B:1", "C:1?l<5", "C:1?l<55", "B:0?!k=0", "B:0?(k=0)", "B:0?k=0&k=1",
            "B:0?k=0|k=1", "C:1?" + "!".repeat(53) + "l<5", "C:1?" + "!".repeat(52) + "l<55",
            "C:1?" + "(".repeat(26) + "l<55" + ")".repeat(26), "C:1?" + "l<5&".repeat(13) + "l<55"};
        for (String text : some) {
            Edge.taken(() -> page(text), text, x -> x.text(0), 1);
            ReignLadders x = page(text);
            x.text(1);
            Edge.is("the page behind " + text, x.count(4), 0);
            Edge.is("the texts of 1 behind " + text, x.count(3), 1);
            Edge.is("the texts of 0 behind " + text, x.count(2), 0);
        }
    }

    private static void sixTextsEach() {
        for (int school = 0; school <= 1; school++) {
            int its = school;
            for (int many = 0; many < TEXTS; many++) {
                int had = many;
                Edge.taken(() -> texts(its, had, "B:0"), "text " + many, x -> x.text(its), many + 1);
            }
            Edge.refused(() -> texts(its, TEXTS, "B:0"), "a seventh", x -> x.text(its), FULL);
            Edge.taken(() -> texts(its, TEXTS, "B:0"), "a first of the other", x -> x.text(1 - its), 1);
        }
    }

    private static void textRefusesUnknownFirst() {
        for (int school : new int[] {-1, 2}) {
            Edge.refused(() -> page("C:"), "no text", x -> x.text(school), UNKNOWN);
            Edge.refused(ReignLadders::new, "no page", x -> x.text(school), UNKNOWN);
            Edge.refused(() -> texts(0, TEXTS, "B:0"), "school 0 full", x -> x.text(school), UNKNOWN);
            Edge.refused(() -> texts(1, TEXTS, "B:0"), "school 1 full", x -> x.text(school), UNKNOWN);
        }
    }

    private static void textRefusesStateAheadOfFull() {
        for (int school = 0; school <= 1; school++) {
            int its = school;
            Edge.refused(() -> texts(its, TEXTS, "B:"), "half a text", x -> x.text(its), STATE);
            Edge.refused(() -> texts(its, TEXTS, ""), "an empty page", x -> x.text(its), STATE);
            Edge.refused(() -> texts(its, TEXTS, "B:1!"), "a fault", x -> x.text(its), STATE);
        }
    }

    private static void whatWasAskedBeforeIsForgotten() {
        for (String before : new String[] {"C:1?(", "C:1?((l<5", "C:1?(l<5))", "D", "C:1?l"}) {
            ReignLadders x = page(before);
            x.fault();
            x.text(0);
            x.blank();
            Due.write(x, "C:1?(l<5))");
            Edge.is("a ) too many behind " + before, x.fault(), 9);
            x.blank();
            Due.write(x, "C:1?(l<5)");
            Edge.is("a text behind " + before, x.text(0), 1);
        }
    }

    // ---- promise 17

    private static void strikeKnowsTwoSchools() {
        Edge.ends(() -> {
            ReignLadders x = texts(0, 2, "");
            Due.text(x, 1, "B:0");
            return x;
        }, 0, 1, ReignLadders::strike, 1, 0, UNKNOWN);
        Edge.beyond(ReignLadders::new, 0, 1, ReignLadders::strike, UNKNOWN);
    }

    private static void noneIsStruck() {
        for (int school = 0; school <= 1; school++) {
            int its = school;
            Edge.refused(ReignLadders::new, "of none ever", x -> x.strike(its), STATE);
            Edge.refused(() -> texts(1 - its, TEXTS, ""), "of none, the other has six", x -> x.strike(its), STATE);
            Edge.refused(() -> {
                ReignLadders x = texts(its, 1, "");
                x.strike(its);
                return x;
            }, "of none left", x -> x.strike(its), STATE);
        }
    }

    private static void allAreStruck() {
        for (int school = 0; school <= 1; school++) {
            ReignLadders x = texts(school, TEXTS, "");
            for (int left = TEXTS - 1; left >= 0; left--) {
                Edge.is("down to " + left, x.strike(school), left);
            }
            ReignLadders y = texts(school, TEXTS, "");
            y.strike(school);
            Edge.is("a sixth again", Due.text(y, school, "B:0"), TEXTS);
            Edge.is("a seventh", Due.text(y, school, "B:0"), FULL);
        }
    }

    // ---- promises 18 and 19

    private static void countsKnowsTwoSchools() {
        Edge.ends(EdgesOfSchoolsTest::two, 0, 1, (x, school) -> x.counts(school, 0), 0, 0, UNKNOWN);
    }

    private static void countsKnowsTheNumbersOfReigns() {
        Edge.ends(EdgesOfSchoolsTest::two, 0, 1, (x, reign) -> x.counts(0, reign), 0, 0, UNKNOWN);
        Edge.ends(EdgesOfSchoolsTest::most, 0, 9, (x, reign) -> x.counts(1, reign), 0, 0, UNKNOWN);
    }

    private static void believesKnowsTwoSchools() {
        Edge.ends(EdgesOfSchoolsTest::two, 0, 1, (x, school) -> x.believes(school, 0), 1, 1, UNKNOWN);
    }

    private static void believesKnowsTheNumbersOfTies() {
        Edge.ends(EdgesOfSchoolsTest::two, 0, 1, (x, tie) -> x.believes(0, tie), 1, 1, UNKNOWN);
        Edge.ends(EdgesOfSchoolsTest::most, 0, 7, (x, tie) -> x.believes(1, tie), 1, 1, UNKNOWN);
    }

    private static void countsAre(ReignLadders x, int school, int... want) {
        for (int reign = 0; reign < want.length; reign++) {
            Edge.is("counts(" + school + ", " + reign + ")", x.counts(school, reign), want[reign]);
        }
    }

    private static void believesAre(ReignLadders x, int school, int... want) {
        for (int tie = 0; tie < want.length; tie++) {
            Edge.is("believes(" + school + ", " + tie + ")", x.believes(school, tie), want[tie]);
        }
    }

    private static void withoutAnyCountsAreNought() {
        ReignLadders x = two();
        countsAre(x, 0, 0, 0);
        Due.text(x, 0, "B:1");
        Due.text(x, 0, "C:1?r=1");
        countsAre(x, 0, 0, 1);
        countsAre(x, 1, 0, 0);
        x.strike(0);
        countsAre(x, 0, 0, 0);
    }

    private static void withoutAnyTiesAreBelieved() {
        ReignLadders x = two();
        believesAre(x, 0, 1, 1);
        Due.text(x, 0, "C:0");
        Due.text(x, 0, "B:0?r=1");
        believesAre(x, 0, 1, 0);
        believesAre(x, 1, 1, 1);
        x.strike(0);
        believesAre(x, 0, 1, 1);
    }

    private static void theLastOfSixCounts() {
        ReignLadders x = two();
        for (int text = 0; text < 5; text++) {
            Due.text(x, 0, "C:" + (1 - text % 2));
        }
        countsAre(x, 0, 1, 1);
        Due.text(x, 0, "C:0?r=1");
        countsAre(x, 0, 1, 0);
        x.strike(0);
        x.strike(0);
        countsAre(x, 0, 0, 0);
    }

    private static void theLastOfSixBelieves() {
        ReignLadders x = two();
        for (int text = 0; text < 5; text++) {
            Due.text(x, 1, "B:" + text % 2);
        }
        believesAre(x, 1, 0, 0);
        Due.text(x, 1, "B:1?r=1");
        believesAre(x, 1, 0, 1);
        x.strike(1);
        x.strike(1);
        believesAre(x, 1, 1, 1);
    }

    /** Whether a condition holds for the last REIGN of most(): l 4, k 0, n 60, r 9. */
    private static void forTheLastReign(String condition, int want) {
        ReignLadders x = most();
        Due.text(x, 0, "C:1?" + condition);
        Edge.is(condition, x.counts(0, 9), want);
    }

    /** Whether a condition holds for the last TIE of most(): l 4, k 2, n 99, r 7. */
    private static void forTheLastTie(String condition, int want) {
        ReignLadders x = most();
        Due.text(x, 0, "B:0?" + condition);
        Edge.is(condition, x.believes(0, 7), 1 - want);
    }

    private interface Meant {
        boolean of(boolean l, boolean n, boolean k);
    }

    /** Eight REIGNS, of which l=1 holds for each second one, n=2 for two of four, k=4 for the last four. */
    private static void means(String condition, Meant meant) {
        ReignLadders x = new ReignLadders();
        for (int reign = 0; reign < 8; reign++) {
            x.reign(reign & 1, reign < 4 ? 0 : 4, 1 + (reign >> 1 & 1), 0, 0);
        }
        Edge.is("text of " + condition, Due.text(x, 0, "C:1?" + condition), 1);
        for (int reign = 0; reign < 8; reign++) {
            boolean want = meant.of((reign & 1) == 1, (reign >> 1 & 1) == 1, reign >= 4);
            Edge.is(condition + " for " + reign, x.counts(0, reign), want ? 1 : 0);
        }
    }

    private static void oneOfTheTermsAtLeastHolds() {
        means("l=1|n=2", (l, n, k) -> l || n);
        means("l=1|n=2|k=4", (l, n, k) -> l || n || k);
        means("l=1|l=1", (l, n, k) -> l);
        means("(l=1|n=2|k=4)", (l, n, k) -> l || n || k);
        means("l<0|n=2", (l, n, k) -> n);
    }

    private static void allFactorsHold() {
        means("l=1&n=2", (l, n, k) -> l && n);
        means("l=1&n=2&k=4", (l, n, k) -> l && n && k);
        means("(l=1&n=2&k=4)", (l, n, k) -> l && n && k);
        means("l=1&n=2|k=4", (l, n, k) -> l && n || k);
        means("l=1|n=2&k=4", (l, n, k) -> l || n && k);
        means("l=1&k=4|n=2&k=0", (l, n, k) -> l && k || n && !k);
    }

    private static void notIsOfAFactor() {
        means("!l=1", (l, n, k) -> !l);
        means("!!l=1", (l, n, k) -> l);
        means("!!!l=1", (l, n, k) -> !l);
        means("!l=1&n=2", (l, n, k) -> !l && n);
        means("!l=1|n=2", (l, n, k) -> !l || n);
        means("l=1&!n=2", (l, n, k) -> l && !n);
        means("l=1|!n=2", (l, n, k) -> l || !n);
        means("!l=1&!n=2&!k=4", (l, n, k) -> !l && !n && !k);
        means("!l<1&!n>1|!k<4", (l, n, k) -> l && !n || k);
    }

    private static void bracketsHoldACondition() {
        means("(l=1|n=2)&k=4", (l, n, k) -> (l || n) && k);
        means("l=1&(n=2|k=4)", (l, n, k) -> l && (n || k));
        means("l=1|(n=2|k=4)&n=2", (l, n, k) -> l || n);
        means("!(l=1|n=2)", (l, n, k) -> !(l || n));
        means("!(l=1&n=2)", (l, n, k) -> !(l && n));
        means("!(l=1|n=2)&k=4", (l, n, k) -> !(l || n) && k);
        means("k=4&!(l=1|n=2)|n=2", (l, n, k) -> k && !l || n);
        means("!(!(l=1)&!(n=2))", (l, n, k) -> l || n);
        means("!(l=1&!(n=2|!(k=4)))", (l, n, k) -> !(l && !(n || !k)));
        means("((((l=1)|n=2)&k=4)|l=1)", (l, n, k) -> (l || n) && k || l);
        means("(l=1)&(n=2)|(k=4)", (l, n, k) -> l && n || k);
        means("!!(l=1|n=2)&!(k=4)", (l, n, k) -> (l || n) && !k);
        means("(".repeat(26) + "l=01" + ")".repeat(26), (l, n, k) -> l);
        means("!(".repeat(17) + "l=1" + ")".repeat(17), (l, n, k) -> !l);
        means("(l<0|".repeat(8) + "l=1" + ")".repeat(8), (l, n, k) -> l);
    }

    /** Texts are kept one behind the other: none reads what another has, nor what a struck one had. */
    private static void textsReadOnlyTheirOwnLetters() {
        ReignLadders x = two();
        Due.text(x, 0, "C:0?" + "!".repeat(52) + "r=00");
        Due.text(x, 0, "C:1?r=1");
        countsAre(x, 0, 0, 1);
        Due.text(x, 0, "C:1?" + "!".repeat(53) + "r=1");
        countsAre(x, 0, 1, 1);
        ReignLadders y = most();
        Due.text(y, 0, "C:1?n=60");
        y.strike(0);
        Due.text(y, 0, "C:1?n=6");
        Edge.is("n=6 in place of n=60", y.counts(0, 9), 0);
        y.strike(0);
        Due.text(y, 0, "C:1");
        Edge.is("no CONDITION in place of n=6", y.counts(0, 9), 1);
    }

    private static void signsOfReigns() {
        String[] holds = {"l<5", "l>3", "l=4", "l=04", "k<1", "k=0", "k=00", "n<61", "n>59", "n=60", "r<10", "r>8", "r=9",
            "r=09", "n<99", "n>00"};
        String[] not = {"l<4", "l>4", "l=3", "l=5", "l=40", "k<0", "k>0", "k=1", "n<60", "n>60", "n=59", "n=61", "n=6",
            "n=0", "r<9", "r>9", "r=8", "r=10", "r=90", "n>99", "l>99"};
        for (String condition : holds) {
            forTheLastReign(condition, 1);
        }
        for (String condition : not) {
            forTheLastReign(condition, 0);
        }
    }

    private static void signsOfTies() {
        String[] holds = {"l<5", "l>3", "l=4", "k<3", "k>1", "k=2", "n>98", "n=99", "r<8", "r>6", "r=7", "r=07"};
        String[] not = {"l<4", "l>4", "l=3", "k<2", "k>2", "k=3", "n<99", "n>99", "n=98", "n=9", "r<7", "r>7", "r=6",
            "r=70"};
        for (String condition : holds) {
            forTheLastTie(condition, 1);
        }
        for (String condition : not) {
            forTheLastTie(condition, 0);
        }
    }

    public static void main(String[] args) {
        Edge.holds(13, "up to eight, until a byte that is 0", EdgesOfSchoolsTest::upToEightLetters);
        Edge.holds(13, "the lowest byte first", EdgesOfSchoolsTest::theLowestByteIsFirst);
        Edge.holds(13, "OUTSIDE: a byte above 126", EdgesOfSchoolsTest::bytesAreNotAbove126);
        Edge.holds(13, "OUTSIDE: one behind a 0 that is not 0", EdgesOfSchoolsTest::nothingStandsBehindAZero);
        Edge.holds(13, "FULL: above 60", EdgesOfSchoolsTest::thePageHasSixtyLetters);
        Edge.holds(13, "OUTSIDE ahead of FULL", EdgesOfSchoolsTest::lettersRefuseOutsideFirst);
        Edge.holds(14, "how many letters it had", EdgesOfSchoolsTest::blankTellsHowManyItHad);
        Edge.holds(14, "THE PAGE is empty", EdgesOfSchoolsTest::anEmptyPageHasRoomForSixty);
        Edge.holds(15, "the first letter that no TEXT has there", EdgesOfSchoolsTest::noTextHasThatLetterThere);
        Edge.holds(15, "the place (from 0) of the first", EdgesOfSchoolsTest::theFirstFaultIsTold);
        Edge.holds(15, "how many letters it has, if there is none", EdgesOfSchoolsTest::withoutAFaultItIsHowManyThereAre);
        Edge.holds(15, "no TEXT (of any length)", EdgesOfSchoolsTest::aTextMayBeLongerThanThePage);
        Edge.holds(15, "a question", EdgesOfSchoolsTest::faultChangesNothing);
        Edge.holds(15, "THE PAGE as it is, not as it was", EdgesOfSchoolsTest::whatWasAskedBeforeIsForgotten);
        Edge.holds(16, "UNKNOWN: school", EdgesOfSchoolsTest::textKnowsTwoSchools);
        Edge.holds(16, "STATE: it is none", EdgesOfSchoolsTest::whatIsNoTextIsState);
        Edge.holds(16, "THE PAGE is empty then", EdgesOfSchoolsTest::theLeastAndTheLongestText);
        Edge.holds(16, "FULL: 6 each at most", EdgesOfSchoolsTest::sixTextsEach);
        Edge.holds(16, "UNKNOWN ahead of STATE and FULL", EdgesOfSchoolsTest::textRefusesUnknownFirst);
        Edge.holds(16, "STATE ahead of FULL", EdgesOfSchoolsTest::textRefusesStateAheadOfFull);
        Edge.holds(17, "UNKNOWN, ahead of STATE", EdgesOfSchoolsTest::strikeKnowsTwoSchools);
        Edge.holds(17, "STATE: it has none", EdgesOfSchoolsTest::noneIsStruck);
        Edge.holds(17, "how many are left", EdgesOfSchoolsTest::allAreStruck);
        Edge.holds(18, "UNKNOWN: school", EdgesOfSchoolsTest::countsKnowsTwoSchools);
        Edge.holds(18, "UNKNOWN: reign", EdgesOfSchoolsTest::countsKnowsTheNumbersOfReigns);
        Edge.holds(18, "C without any: 0", EdgesOfSchoolsTest::withoutAnyCountsAreNought);
        Edge.holds(18, "the TEXT told last speaks", EdgesOfSchoolsTest::theLastOfSixCounts);
        Edge.holds(18, "a letter, <, = or >, and one or two digits", EdgesOfSchoolsTest::signsOfReigns);
        Edge.holds(18, "TERMS: one of them at least holds", EdgesOfSchoolsTest::oneOfTheTermsAtLeastHolds);
        Edge.holds(18, "FACTORS: all hold", EdgesOfSchoolsTest::allFactorsHold);
        Edge.holds(18, "! and a FACTOR", EdgesOfSchoolsTest::notIsOfAFactor);
        Edge.holds(18, "( CONDITION )", EdgesOfSchoolsTest::bracketsHoldACondition);
        Edge.holds(18, "each TEXT by itself", EdgesOfSchoolsTest::textsReadOnlyTheirOwnLetters);
        Edge.holds(19, "UNKNOWN: school", EdgesOfSchoolsTest::believesKnowsTwoSchools);
        Edge.holds(19, "UNKNOWN: tie", EdgesOfSchoolsTest::believesKnowsTheNumbersOfTies);
        Edge.holds(19, "B without any: 1", EdgesOfSchoolsTest::withoutAnyTiesAreBelieved);
        Edge.holds(19, "the TEXT told last speaks", EdgesOfSchoolsTest::theLastOfSixBelieves);
        Edge.holds(19, "a letter, <, = or >, and one or two digits", EdgesOfSchoolsTest::signsOfTies);
        Edge.end();
    }
}
