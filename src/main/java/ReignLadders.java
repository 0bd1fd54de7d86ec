/** Lists of reigns by lands, the ties between them, two schools' rules, and all ladders of years that both leave. */
public final class ReignLadders {
    public static final int NONE = -1, UNKNOWN = -101, OUTSIDE = -102, STATE = -103, FULL = -104;

    private static final int YEAR_UNKNOWN = -9001, YEAR_OUTSIDE = -9002, NO_SPAN = -9999;
    private static final int FINE = 0;
    private static final int LANDS = 5, REIGNS = 10, TIES = 8, WISHES = 6, SCHOOLS = 2, LATEST_EDITION = 9;
    private static final int LONGEST_NUMBER = 60, LAST_X = 99, MOST_SLACK = 20, FIRST_YEAR = -2000, LAST_YEAR = 2000;
    private static final int TEXTS = 6, PAGE_LETTERS = 60, MOST_DOUBTS = 10;

    private final Reigns reigns;
    private final Ties ties;
    private final Ties wishes;
    private final School firstSchool;
    private final School secondSchool;
    private final Subject subject;
    private final Page page;
    private final Ladders ladders;
    private int doubts;

    public ReignLadders() {
        reigns = new Reigns();
        ties = new Ties(TIES);
        wishes = new Ties(WISHES);
        firstSchool = new School();
        secondSchool = new School();
        subject = new Subject();
        page = new Page();
        ladders = new Ladders(reigns, ties, wishes);
        doubts = 0;
    }

    // ---- lists

    public int reign(int land, int kind, int n, int m, int edition) {
        if (!within(land, 0, LANDS - 1) || !within(kind, 0, Reigns.DOUBLED) || !within(edition, 0, LATEST_EDITION)) {
            return OUTSIDE;
        }
        if (!within(n, 1, LONGEST_NUMBER) || !within(m, 0, kind == Reigns.BESIDE ? n : LONGEST_NUMBER)) {
            return OUTSIDE;
        }
        int ahead = reigns.lastOf(land);
        if (ahead != NONE && !reigns.isKnown(ahead, edition)) {
            return OUTSIDE;
        }
        if (kind == Reigns.BESIDE && ahead == NONE) {
            return STATE;
        }
        return reigns.hasRoomFor(kind) ? reigns.add(land, kind, n, m, edition) : FULL;
    }

    public int about(int reign, int what) {
        if (!reigns.has(reign)) {
            return UNKNOWN;
        }
        return within(what, 0, Reigns.AHEAD) ? reigns.fact(reign, what) : OUTSIDE;
    }

    public int as(int reign, int kind) {
        if (!reigns.has(reign)) {
            return UNKNOWN;
        }
        if (!within(kind, 0, Reigns.DOUBLED)) {
            return OUTSIDE;
        }
        return Reigns.isOf(reigns.fact(reign, Reigns.KIND), kind) ? reign : NONE;
    }

    public int lasts(int reign, int count, int which) {
        if (!reigns.has(reign)) {
            return UNKNOWN;
        }
        if (!within(count, 0, 1) || !within(which, 0, 2)) {
            return OUTSIDE;
        }
        if (which == 2) {
            return reigns.lengths(reign, count);
        }
        return which == 0 ? reigns.shortest(reign, count) : reigns.longest(reign, count);
    }

    public int number(int reign, int n) {
        if (!reigns.has(reign)) {
            return UNKNOWN;
        }
        if (!within(n, 1, LONGEST_NUMBER) || n < reigns.overlap(reign)) {
            return OUTSIDE;
        }
        return reigns.renumber(reign, n);
    }

    // ---- ties

    public int tie(int a, int x, int b, int y, int slack, int edition) {
        if (!arePair(a, b)) {
            return UNKNOWN;
        }
        if (!arePlaces(x, y) || !within(slack, 0, MOST_SLACK) || !within(edition, 0, LATEST_EDITION)) {
            return OUTSIDE;
        }
        return ties.isFull() ? FULL : ties.add(Ties.TIE, a, x, b, y, slack, edition);
    }

    public int sky(int a, int x, int p, int q, int r, int edition) {
        if (!reigns.has(a)) {
            return UNKNOWN;
        }
        if (!arePlaces(x, x) || !isYear(p) || !isYear(q) || !isYear(r) || !within(edition, 0, LATEST_EDITION)) {
            return OUTSIDE;
        }
        return ties.isFull() || ties.areSkiesFull() ? FULL : ties.addSky(a, x, p, q, r, edition);
    }

    public int ring(int a, int x, int year, int edition) {
        if (!reigns.has(a)) {
            return UNKNOWN;
        }
        if (!arePlaces(x, x) || !isYear(year) || !within(edition, 0, LATEST_EDITION)) {
            return OUTSIDE;
        }
        return ties.isFull() ? FULL : ties.addRing(a, x, year, edition);
    }

    public int letter(int a, int x, int b, int y, int edition) {
        if (!arePair(a, b)) {
            return UNKNOWN;
        }
        if (!arePlaces(x, y) || !within(edition, 0, LATEST_EDITION)) {
            return OUTSIDE;
        }
        return ties.isFull() ? FULL : ties.add(Ties.LETTER, a, x, b, y, NONE, edition);
    }

    public int tied(int tie, int what) {
        if (!ties.has(tie)) {
            return UNKNOWN;
        }
        return within(what, 0, Ties.EDITION) ? ties.fact(tie, what) : OUTSIDE;
    }

    public int undo() {
        return ties.size() > 0 ? ties.drop() : STATE;
    }

    // ---- schools

    public int letters(long w) {
        int told = Page.lettersIn(w);
        if (told == OUTSIDE) {
            return OUTSIDE;
        }
        return told > PAGE_LETTERS - page.size() ? FULL : page.write(w, told);
    }

    public int blank() {
        return page.wipe();
    }

    public int fault() {
        return page.firstFault();
    }

    public int text(int school) {
        if (!isSchool(school)) {
            return UNKNOWN;
        }
        if (!page.isText()) {
            return STATE;
        }
        if (schoolOf(school).isFull()) {
            return FULL;
        }
        int texts = schoolOf(school).learn(page);
        page.wipe();
        return texts;
    }

    public int strike(int school) {
        if (!isSchool(school)) {
            return UNKNOWN;
        }
        return schoolOf(school).size() > 0 ? schoolOf(school).unlearn() : STATE;
    }

    public int counts(int school, int reign) {
        if (!isSchool(school) || !reigns.has(reign)) {
            return UNKNOWN;
        }
        return countFor(school, reign);
    }

    public int believes(int school, int tie) {
        if (!isSchool(school) || !ties.has(tie)) {
            return UNKNOWN;
        }
        return beliefFor(school, tie);
    }

    // ---- ladders

    public int can(int school, int edition) {
        int refusal = refusal(school, edition);
        if (refusal != FINE) {
            return refusal;
        }
        return ladders.find(lay(school, edition), NONE, false) ? 1 : 0;
    }

    public int span(int school, int edition, int reign, int side) {
        int refusal = refusal(school, edition);
        if (refusal != FINE) {
            return refusal == UNKNOWN ? YEAR_UNKNOWN : YEAR_OUTSIDE;
        }
        if (!reigns.has(reign)) {
            return YEAR_UNKNOWN;
        }
        if (!within(side, 0, 1)) {
            return YEAR_OUTSIDE;
        }
        ladders.find(lay(school, edition), NONE, true);
        return ladders.end(reign, side);
    }

    public int held(int school, int edition, int reign, int side) {
        int refusal = refusal(school, edition);
        if (refusal != FINE) {
            return refusal;
        }
        if (!reigns.has(reign)) {
            return UNKNOWN;
        }
        return within(side, 0, 1) ? holders(lay(school, edition), reign, side) : OUTSIDE;
    }

    public int doubt(int school, int edition, int what) {
        int refusal = refusal(school, edition);
        if (refusal != FINE) {
            return refusal;
        }
        if (!within(what, 0, 1)) {
            return OUTSIDE;
        }
        if (doubts >= MOST_DOUBTS) {
            return STATE;
        }
        doubts++;
        return doubted(lay(school, edition), what);
    }

    public int floats(int school, int edition) {
        int refusal = refusal(school, edition);
        return refusal != FINE ? refusal : afloat(believedBy(school, edition), edition);
    }

    public int open(int school, int edition) {
        int refusal = refusal(school, edition);
        if (refusal != FINE) {
            return refusal;
        }
        return ladders.find(lay(school, edition), NONE, true) ? ladders.openness() : NONE;
    }

    public int part() {
        ladders.find(lay(0, LATEST_EDITION), NONE, true);
        ladders.keepSpans();
        ladders.find(lay(1, LATEST_EDITION), NONE, true);
        return ladders.firstUnlikeKept();
    }

    // ---- wishes, ladders told

    public int wish(int a, int x, int b, int y, int slack) {
        if (!arePair(a, b)) {
            return UNKNOWN;
        }
        if (!arePlaces(x, y) || !within(slack, 0, MOST_SLACK)) {
            return OUTSIDE;
        }
        return wishes.isFull() ? FULL : wishes.add(Ties.TIE, a, x, b, y, slack, 0);
    }

    public int closes(int school, int edition, int wish) {
        int refusal = refusal(school, edition);
        if (refusal != FINE) {
            return refusal;
        }
        if (!wishes.has(wish)) {
            return UNKNOWN;
        }
        int believed = lay(school, edition);
        return ladders.find(believed, NONE, true) ? gain(believed, edition, wish, ladders.openness()) : NONE;
    }

    public int best(int school, int edition) {
        int refusal = refusal(school, edition);
        if (refusal != FINE) {
            return refusal;
        }
        int believed = lay(school, edition);
        int openness = ladders.find(believed, NONE, true) ? ladders.openness() : NONE;
        int best = NONE;
        int most = NONE;
        for (int wish = 0; wish < wishes.size() && openness != NONE; wish++) {
            int gain = gain(believed, edition, wish, openness);
            if (gain > most) {
                most = gain;
                best = wish;
            }
        }
        return best;
    }

    public int tell(int reign, int year) {
        if (!reigns.has(reign)) {
            return YEAR_UNKNOWN;
        }
        return isYear(year) ? reigns.retell(reign, year) : YEAR_OUTSIDE;
    }

    public int judge(int school) {
        if (!isSchool(school)) {
            return UNKNOWN;
        }
        for (int reign = 0; reign < reigns.size(); reign++) {
            int ahead = reigns.fact(reign, Reigns.AHEAD);
            if (ahead != NONE && !reigns.isToldBehind(reign, ahead, countFor(school, ahead))) {
                return 100 + reign;
            }
        }
        for (int tie = 0; tie < ties.size(); tie++) {
            if (beliefFor(school, tie) == 1 && !ties.holdsAsTold(tie, reigns)) {
                return 200 + tie;
            }
        }
        return NONE;
    }

    // ---- what is told

    public int count(int what) {
        switch (what) {
            case 0: return reigns.size();
            case 1: return ties.size();
            case 2: return firstSchool.size();
            case 3: return secondSchool.size();
            case 4: return page.size();
            case 5: return wishes.size();
            case 6: return doubts;
            default: return OUTSIDE;
        }
    }

    public long digest() {
        long h = ties.digestOn(reigns.digestOn(293));
        for (int school = 0; school < SCHOOLS; school++) {
            h = sayingsDigest(h, school);
            h = 31 * h + can(school, LATEST_EDITION);
            h = 31 * h + floats(school, LATEST_EDITION);
        }
        h = page.digestOn(wishes.digestPairsOn(h));
        for (int what = 0; what <= 6; what++) {
            h = 31 * h + count(what);
        }
        return h;
    }

    private long sayingsDigest(long start, int school) {
        long h = start;
        for (int reign = 0; reign < reigns.size(); reign++) {
            h = 31 * h + countFor(school, reign);
        }
        for (int tie = 0; tie < ties.size(); tie++) {
            h = 31 * h + beliefFor(school, tie);
        }
        return h;
    }

    // ---- what calls may name

    private static boolean within(int value, int least, int most) {
        return value >= least && value <= most;
    }

    private static boolean isYear(int year) {
        return within(year, FIRST_YEAR, LAST_YEAR);
    }

    private static boolean arePlaces(int x, int y) {
        return within(x, 1, LAST_X) && within(y, 1, LAST_X);
    }

    private boolean arePair(int a, int b) {
        return reigns.has(a) && reigns.has(b) && a != b;
    }

    private static boolean isSchool(int school) {
        return within(school, 0, SCHOOLS - 1);
    }

    private static int refusal(int school, int edition) {
        if (!isSchool(school)) {
            return UNKNOWN;
        }
        return within(edition, 0, LATEST_EDITION) ? FINE : OUTSIDE;
    }

    // ---- what schools say

    private School schoolOf(int school) {
        return school == 0 ? firstSchool : secondSchool;
    }

    private int countFor(int school, int reign) {
        subject.set(reigns.fact(reign, Reigns.LAND), reigns.fact(reign, Reigns.KIND),
                reigns.fact(reign, Reigns.NUMBER), reign);
        return schoolOf(school).says('C', subject, 0);
    }

    private int beliefFor(int school, int tie) {
        subject.set(reigns.fact(ties.fact(tie, Ties.A), Reigns.LAND), ties.fact(tie, Ties.SORT),
                ties.fact(tie, Ties.X), tie);
        return schoolOf(school).says('B', subject, 1);
    }

    private int believedBy(int school, int edition) {
        int believed = 0;
        for (int tie = 0; tie < ties.size(); tie++) {
            if (ties.isKnown(tie, edition, reigns) && beliefFor(school, tie) == 1) {
                believed |= 1 << tie;
            }
        }
        return believed;
    }

    /** Lays the lists as a school counts them; its believed ties come back as bits, for the questions that follow. */
    private int lay(int school, int edition) {
        int counts = 0;
        for (int reign = 0; reign < reigns.size(); reign++) {
            counts |= countFor(school, reign) << reign;
        }
        ladders.layLists(edition, counts);
        return believedBy(school, edition);
    }

    // ---- what ladders tell

    private int holders(int believed, int reign, int side) {
        if (!ladders.find(believed, NONE, true)) {
            return 0;
        }
        int end = ladders.end(reign, side);
        int holders = 0;
        for (int tie = 0; tie < ties.size(); tie++) {
            int bit = 1 << tie;
            if ((believed & bit) != 0 && ladders.find(believed & ~bit, NONE, true) && ladders.end(reign, side) != end) {
                holders |= bit;
            }
        }
        return holders;
    }

    private int doubted(int believed, int what) {
        for (int size = 0; size <= ties.size(); size++) {
            int found = 0;
            int first = NONE;
            for (int doubted = 0; doubted < 1 << ties.size(); doubted++) {
                boolean fits = (doubted & ~believed) == 0 && Integer.bitCount(doubted) == size;
                if (fits && ladders.find(believed & ~doubted, NONE, false)) {
                    first = found == 0 ? doubted : first;
                    found++;
                }
            }
            if (found > 0) {
                return what == 0 ? first : found - 1;
            }
        }
        return NONE;
    }

    private int afloat(int believed, int edition) {
        int anchored = 0;
        // A round that anchors nothing new ends it, so there are no more rounds than reigns and one.
        for (int round = 0; round <= REIGNS; round++) {
            int before = anchored;
            anchored = reigns.spreadInLands(ties.spread(anchored, believed), edition);
            if (anchored == before) {
                break;
            }
        }
        return reigns.knownBits(edition) & ~anchored;
    }

    private int gain(int believed, int edition, int wish, int openness) {
        if (!wishes.isKnown(wish, edition, reigns) || !ladders.find(believed, wish, true)) {
            return NONE;
        }
        return openness - ladders.openness();
    }

    // ---- rows are read and written only where they have a place

    private static int at(int[] row, int place) {
        return row != null && place >= 0 && place < row.length ? row[place] : NONE;
    }

    private static void put(int[] row, int place, int value) {
        if (row != null && place >= 0 && place < row.length) {
            row[place] = value;
        }
    }

    /** The reigns in the order in which they were told, and the told ladder. */
    private static final class Reigns {
        static final int BESIDE = 1, LEFT = 2, MISREAD = 3, BROKEN = 5, DOUBLED = 6;
        static final int LAND = 0, KIND = 1, NUMBER = 2, OTHER = 3, EDITION = 4, AHEAD = 5;
        private static final int FACTS = 6, MOST_MISREAD = 3, BROKEN_LONGEST = 60;

        private final int[] facts;
        private final int[] told;
        private final int[] lastOfLand;
        private int size;
        private int misread;

        Reigns() {
            facts = new int[REIGNS * FACTS];
            told = new int[REIGNS];
            lastOfLand = new int[] {NONE, NONE, NONE, NONE, NONE};
            size = 0;
            misread = 0;
        }

        int size() {
            return size;
        }

        boolean has(int reign) {
            return reign >= 0 && reign < size;
        }

        int fact(int reign, int what) {
            return at(facts, reign * FACTS + what);
        }

        int lastOf(int land) {
            return at(lastOfLand, land);
        }

        static boolean isOf(int kind, int wanted) {
            return wanted == 0 || kind == wanted || kind == DOUBLED && wanted == MISREAD;
        }

        boolean hasRoomFor(int kind) {
            return size < REIGNS && !(isOf(kind, MISREAD) && misread >= MOST_MISREAD);
        }

        int add(int land, int kind, int n, int m, int edition) {
            int start = size * FACTS;
            put(facts, start + LAND, land);
            put(facts, start + KIND, kind);
            put(facts, start + NUMBER, n);
            put(facts, start + OTHER, m);
            put(facts, start + EDITION, edition);
            put(facts, start + AHEAD, lastOf(land));
            put(told, size, 0);
            put(lastOfLand, land, size);
            misread += isOf(kind, MISREAD) ? 1 : 0;
            return size++;
        }

        int renumber(int reign, int n) {
            int before = fact(reign, NUMBER);
            put(facts, reign * FACTS + NUMBER, n);
            return before;
        }

        int retell(int reign, int year) {
            int before = toldYear(reign);
            put(told, reign, year);
            return before;
        }

        int toldYear(int reign) {
            return at(told, reign);
        }

        boolean isKnown(int reign, int edition) {
            return has(reign) && fact(reign, EDITION) <= edition;
        }

        int knownBits(int edition) {
            int known = 0;
            for (int reign = 0; reign < size; reign++) {
                known |= isKnown(reign, edition) ? 1 << reign : 0;
            }
            return known;
        }

        /** How many years a reign begins ahead of the end of the one ahead. */
        int overlap(int reign) {
            return fact(reign, KIND) == BESIDE ? fact(reign, OTHER) : 0;
        }

        private int counted(int reign, int count) {
            return at(facts, reign * FACTS + NUMBER) - count;
        }

        private int otherReading(int reign, int count) {
            boolean none = at(facts, reign * FACTS + KIND) == DOUBLED;
            return none ? 0 : Math.max(0, at(facts, reign * FACTS + OTHER) - count);
        }

        int shortest(int reign, int count) {
            switch (fact(reign, KIND)) {
                case LEFT: return 0;
                case BROKEN: return 1;
                case MISREAD: case DOUBLED: return Math.min(counted(reign, count), otherReading(reign, count));
                default: return counted(reign, count);
            }
        }

        int longest(int reign, int count) {
            switch (fact(reign, KIND)) {
                case BROKEN: return BROKEN_LONGEST;
                case MISREAD: case DOUBLED: return Math.max(counted(reign, count), otherReading(reign, count));
                default: return counted(reign, count);
            }
        }

        boolean isMisread(int reign) {
            return isOf(fact(reign, KIND), MISREAD);
        }

        int lengths(int reign, int count) {
            int years = longest(reign, count) - shortest(reign, count);
            return isMisread(reign) ? Math.min(years, 1) + 1 : years + 1;
        }

        boolean isToldBehind(int reign, int ahead, int count) {
            int lasted = toldYear(reign) - toldYear(ahead) + overlap(reign);
            int least = shortest(ahead, count);
            int most = longest(ahead, count);
            if (isMisread(ahead)) {
                return lasted == least || lasted == most;
            }
            return within(lasted, least, most);
        }

        int spreadInLands(int anchored, int edition) {
            int spread = anchored;
            for (int reign = 0; reign < size; reign++) {
                int ahead = fact(reign, AHEAD);
                if (ahead != NONE && isKnown(reign, edition)) {
                    int both = 1 << reign | 1 << ahead;
                    spread |= (spread & both) != 0 ? both : 0;
                }
            }
            return spread;
        }

        long digestOn(long start) {
            long h = start;
            for (int reign = 0; reign < size; reign++) {
                for (int what = 0; what < FACTS; what++) {
                    h = 31 * h + fact(reign, what);
                }
                h = 31 * h + toldYear(reign);
            }
            return h;
        }
    }

    /** Ties in the order in which they were told; wishes are kept as such, too. */
    private static final class Ties {
        static final int TIE = 0, SKY = 1, RING = 2, LETTER = 3;
        static final int SORT = 0, A = 1, X = 2, B = 3, Y = 4, SLACK = 5, EDITION = 6;
        static final int YEARS = 3;
        private static final int FACTS = 7, MOST_SKIES = 2;

        private final int[] facts;
        private final int[] years;
        private final int most;
        private int size;
        private int skies;

        Ties(int most) {
            this.most = within(most, 0, TIES) ? most : 0;
            facts = new int[this.most * FACTS];
            years = new int[this.most * YEARS];
            size = 0;
            skies = 0;
        }

        int size() {
            return size;
        }

        boolean has(int tie) {
            return tie >= 0 && tie < size;
        }

        boolean isFull() {
            return size >= most;
        }

        boolean areSkiesFull() {
            return skies >= MOST_SKIES;
        }

        int fact(int tie, int what) {
            return at(facts, tie * FACTS + what);
        }

        int year(int tie, int which) {
            return at(years, tie * YEARS + which);
        }

        int add(int sort, int a, int x, int b, int y, int slack, int edition) {
            int start = size * FACTS;
            put(facts, start + SORT, sort);
            put(facts, start + A, a);
            put(facts, start + X, x);
            put(facts, start + B, b);
            put(facts, start + Y, y);
            put(facts, start + SLACK, slack);
            put(facts, start + EDITION, edition);
            return size++;
        }

        int addSky(int a, int x, int p, int q, int r, int edition) {
            put(years, size * YEARS, p);
            put(years, size * YEARS + 1, q);
            put(years, size * YEARS + 2, r);
            skies++;
            return add(SKY, a, x, NONE, NONE, NONE, edition);
        }

        int addRing(int a, int x, int year, int edition) {
            put(years, size * YEARS, year);
            return add(RING, a, x, NONE, NONE, NONE, edition);
        }

        int drop() {
            size--;
            skies -= fact(size, SORT) == SKY ? 1 : 0;
            return size;
        }

        /** By how much b begins later than a, if year x of a is year y of b. */
        int shift(int tie) {
            return at(facts, tie * FACTS + X) - at(facts, tie * FACTS + Y);
        }

        /** In which year a begins, if its year x is one of the told years. */
        int beginning(int tie, int which) {
            return at(years, tie * YEARS + which) - at(facts, tie * FACTS + X) + 1;
        }

        boolean isKnown(int tie, int edition, Reigns reigns) {
            int b = fact(tie, B);
            return fact(tie, EDITION) <= edition && reigns.isKnown(fact(tie, A), edition)
                    && (b == NONE || reigns.isKnown(b, edition));
        }

        boolean holdsAsTold(int tie, Reigns reigns) {
            int begins = reigns.toldYear(fact(tie, A));
            int late = reigns.toldYear(fact(tie, B)) - begins - shift(tie);
            switch (fact(tie, SORT)) {
                case TIE: return Math.abs(late) <= fact(tie, SLACK);
                case SKY: return begins == beginning(tie, 0) || begins == beginning(tie, 1)
                        || begins == beginning(tie, 2);
                case RING: return begins >= beginning(tie, 0);
                default: return late >= 0;
            }
        }

        int spread(int anchored, int believed) {
            int spread = anchored;
            for (int tie = 0; tie < size; tie++) {
                if ((believed & 1 << tie) == 0) {
                    continue;
                }
                int b = fact(tie, B);
                int both = 1 << fact(tie, A) | (b == NONE ? 0 : 1 << b);
                spread |= b == NONE || (spread & both) != 0 ? both : 0;
            }
            return spread;
        }

        long digestOn(long start) {
            long h = start;
            for (int tie = 0; tie < size; tie++) {
                for (int what = 0; what < FACTS; what++) {
                    h = 31 * h + fact(tie, what);
                }
                for (int which = 0; which < YEARS && fact(tie, SORT) == SKY; which++) {
                    h = 31 * h + year(tie, which);
                }
            }
            return h;
        }

        long digestPairsOn(long start) {
            long h = start;
            for (int tie = 0; tie < size; tie++) {
                for (int what = A; what <= SLACK; what++) {
                    h = 31 * h + fact(tie, what);
                }
            }
            return h;
        }
    }

    /** The page, and how far its letters go along with what a text may have. */
    private static final class Page {
        private static final int ACT = 0, COLON = 1, VALUE = 2, MARK = 3, FACTOR = 4, SIGN = 5, DIGIT = 6,
                SECOND_DIGIT = 7, JOINT = 8, FAULT = 9;
        private static final int HIGHEST_CODE = 126, BYTES = 8;

        private final int[] letters;
        private int size;
        private int expected;
        private int depth;

        Page() {
            letters = new int[PAGE_LETTERS];
            size = 0;
            expected = ACT;
            depth = 0;
        }

        int size() {
            return size;
        }

        int letterAt(int place) {
            return at(letters, place);
        }

        private static int byteOf(long w, int place) {
            return (int) (w >>> 8 * place & 255);
        }

        static int lettersIn(long w) {
            int told = 0;
            for (int place = 0; place < BYTES; place++) {
                int code = byteOf(w, place);
                if (code > HIGHEST_CODE || code != 0 && told < place) {
                    return OUTSIDE;
                }
                told += code != 0 ? 1 : 0;
            }
            return told;
        }

        int write(long w, int told) {
            for (int place = 0; place < told; place++) {
                put(letters, size + place, byteOf(w, place));
            }
            size += told;
            return size;
        }

        int wipe() {
            int before = size;
            size = 0;
            return before;
        }

        int firstFault() {
            expected = ACT;
            depth = 0;
            for (int place = 0; place < size; place++) {
                int letter = letterAt(place);
                expected = after(letter);
                if (expected == FAULT) {
                    return place;
                }
                depth += letter == '(' ? 1 : letter == ')' ? -1 : 0;
            }
            return size;
        }

        boolean isText() {
            if (firstFault() < size || depth > 0) {
                return false;
            }
            return expected == MARK || expected == SECOND_DIGIT || expected == JOINT;
        }

        private int after(int letter) {
            switch (expected) {
                case ACT: return letter == 'C' || letter == 'B' ? COLON : FAULT;
                case COLON: return letter == ':' ? VALUE : FAULT;
                case VALUE: return letter == '0' || letter == '1' ? MARK : FAULT;
                case MARK: return letter == '?' ? FACTOR : FAULT;
                case FACTOR: return afterFactorBegins(letter);
                case SIGN: return letter == '<' || letter == '=' || letter == '>' ? DIGIT : FAULT;
                case DIGIT: return isDigit(letter) ? SECOND_DIGIT : FAULT;
                case SECOND_DIGIT: return isDigit(letter) ? JOINT : afterFactorEnds(letter);
                default: return afterFactorEnds(letter);
            }
        }

        private static int afterFactorBegins(int letter) {
            switch (letter) {
                case '!': case '(': return FACTOR;
                case 'l': case 'k': case 'n': case 'r': return SIGN;
                default: return FAULT;
            }
        }

        private int afterFactorEnds(int letter) {
            if (letter == ')') {
                return depth > 0 ? JOINT : FAULT;
            }
            return letter == '|' || letter == '&' ? FACTOR : FAULT;
        }

        private static boolean isDigit(int letter) {
            return letter >= '0' && letter <= '9';
        }

        long digestOn(long start) {
            long h = start;
            for (int place = 0; place < size; place++) {
                h = 31 * h + letterAt(place);
            }
            return h;
        }
    }

    /** A school's texts, in the order in which they were told. */
    private static final class School {
        private static final int VALUE = 2, CONDITION = 4;

        private final int[] letters;
        private final int[] lengths;
        private int size;

        School() {
            letters = new int[TEXTS * PAGE_LETTERS];
            lengths = new int[TEXTS];
            size = 0;
        }

        int size() {
            return size;
        }

        boolean isFull() {
            return size >= TEXTS;
        }

        int learn(Page page) {
            for (int place = 0; place < page.size(); place++) {
                put(letters, size * PAGE_LETTERS + place, page.letterAt(place));
            }
            put(lengths, size, page.size());
            size++;
            return size;
        }

        int unlearn() {
            size--;
            return size;
        }

        int says(int act, Subject subject, int otherwise) {
            for (int text = size - 1; text >= 0; text--) {
                int start = text * PAGE_LETTERS;
                boolean speaks = at(letters, start) == act
                        && subject.meets(letters, start + CONDITION, start + at(lengths, text));
                if (speaks) {
                    return at(letters, start + VALUE) - '0';
                }
            }
            return otherwise;
        }
    }

    /** The reign or tie for which a text is read, and what its condition has come to so far. */
    private static final class Subject {
        private int land;
        private int kind;
        private int number;
        private int own;
        // One bit for each bracket that stands open, the innermost lowest.
        private long anyTerm;
        private long allFactors;
        private long flipped;

        void set(int itsLand, int itsKind, int itsNumber, int itsOwn) {
            land = itsLand;
            kind = itsKind;
            number = itsNumber;
            own = itsOwn;
        }

        boolean meets(int[] letters, int start, int end) {
            anyTerm = 0;
            allFactors = 1;
            flipped = 0;
            for (int place = start; place < end; place++) {
                int letter = at(letters, place);
                switch (letter) {
                    case '!':
                        flipped ^= 1;
                        break;
                    case '(':
                        begin();
                        break;
                    case ')':
                        take(end());
                        break;
                    case '|':
                        anyTerm |= allFactors & 1;
                        allFactors |= 1;
                        break;
                    case '<': case '=': case '>':
                        int second = place + 2 < end ? at(letters, place + 2) : NONE;
                        int value = numberOf(at(letters, place + 1), second);
                        take(compared(valueOf(at(letters, place - 1)), letter, value));
                        break;
                    default:
                        // Letters and digits are taken with their sign, and "&" leaves all as it is.
                        break;
                }
            }
            return ((anyTerm | allFactors) & 1) == 1;
        }

        private void begin() {
            anyTerm <<= 1;
            allFactors = allFactors << 1 | 1;
            flipped <<= 1;
        }

        private long end() {
            long value = (anyTerm | allFactors) & 1;
            anyTerm >>>= 1;
            allFactors >>>= 1;
            flipped >>>= 1;
            return value;
        }

        private void take(long value) {
            if ((value ^ flipped & 1) == 0) {
                allFactors &= ~1L;
            }
            flipped &= ~1L;
        }

        private int valueOf(int letter) {
            switch (letter) {
                case 'l': return land;
                case 'k': return kind;
                case 'n': return number;
                default: return own;
            }
        }

        private static int numberOf(int first, int second) {
            boolean two = second >= '0' && second <= '9';
            return two ? 10 * (first - '0') + second - '0' : first - '0';
        }

        private static long compared(int left, int sign, int right) {
            switch (sign) {
                case '<': return left < right ? 1 : 0;
                case '>': return left > right ? 1 : 0;
                default: return left == right ? 1 : 0;
            }
        }
    }

    /** For each two points the most years by which one may come behind the other; point 0 is the year 0. */
    private static final class Grid {
        static final int POINTS = REIGNS + 1;

        private final int[] cells;
        private int points;

        Grid() {
            cells = new int[POINTS * POINTS];
            points = 0;
        }

        /** Only the bounds of years: already closed, as any two are joined by way of the year 0. */
        void clear(int wanted) {
            points = within(wanted, 0, POINTS) ? wanted : 0;
            for (int from = 0; from < points; from++) {
                for (int to = 0; to < points; to++) {
                    int byYearZero = (from == 0 ? 0 : -FIRST_YEAR) + (to == 0 ? 0 : LAST_YEAR);
                    put(cells, from * POINTS + to, from == to ? 0 : byYearZero);
                }
            }
        }

        void copy(Grid other) {
            points = other.points;
            System.arraycopy(other.cells, 0, cells, 0, POINTS * POINTS);
        }

        int most(int from, int to) {
            return at(cells, from * POINTS + to);
        }

        /** Between least and most years from one point to the other; false if no years are left. */
        boolean keep(int from, int to, int least, int most) {
            return hold(from, to, most) && hold(to, from, -least);
        }

        /** At most so many years; the grid stays closed, and as it was if no years are left (false). */
        boolean hold(int from, int to, int most) {
            int bound = points < POINTS ? points : POINTS;
            if (from < 0 || from >= bound || to < 0 || to >= bound) {
                return false;
            }
            if (most >= cells[from * POINTS + to]) {
                return true;
            }
            if (most < -cells[to * POINTS + from]) {
                return false;
            }
            for (int ahead = 0; ahead < bound; ahead++) {
                int row = ahead * POINTS;
                int upTo = cells[row + from] + most;
                // In a closed grid no way on from there is shorter either.
                if (upTo >= cells[row + to]) {
                    continue;
                }
                for (int behind = 0; behind < bound; behind++) {
                    int way = upTo + cells[to * POINTS + behind];
                    if (way < cells[row + behind]) {
                        cells[row + behind] = way;
                    }
                }
            }
            return true;
        }

        boolean allows(int one, int first, int two, int second) {
            return first <= most(0, one) && -first <= most(one, 0)
                    && second <= most(0, two) && -second <= most(two, 0)
                    && second - first <= most(one, two) && first - second <= most(two, one);
        }
    }

    /** All ladders: ways to read the misread reigns, times years of the skies; between them all is bounds of years. */
    private static final class Ladders {
        private static final int MOST_FORKS = 3;

        private final Reigns reigns;
        private final Ties ties;
        private final Ties wishes;
        private final Grid lists;
        private final Grid tiedLists;
        private final Grid trial;
        private final int[] forkBehind;
        private final int[] forkLeast;
        private final int[] forkMost;
        private final int[] least;
        private final int[] greatest;
        private final int[] keptLeast;
        private final int[] keptGreatest;
        private int edition;
        private int forks;
        private int firstSky;
        private int secondSky;
        private boolean found;

        Ladders(Reigns reigns, Ties ties, Ties wishes) {
            this.reigns = reigns;
            this.ties = ties;
            this.wishes = wishes;
            lists = new Grid();
            tiedLists = new Grid();
            trial = new Grid();
            forkBehind = new int[MOST_FORKS];
            forkLeast = new int[MOST_FORKS];
            forkMost = new int[MOST_FORKS];
            least = new int[REIGNS];
            greatest = new int[REIGNS];
            keptLeast = new int[REIGNS];
            keptGreatest = new int[REIGNS];
            edition = 0;
            forks = 0;
            firstSky = NONE;
            secondSky = NONE;
            found = false;
        }

        void layLists(int knownBy, int counts) {
            edition = knownBy;
            forks = 0;
            lists.clear(reigns.size() + 1);
            for (int reign = 0; reign < reigns.size(); reign++) {
                int ahead = reigns.fact(reign, Reigns.AHEAD);
                if (ahead != NONE && reigns.isKnown(reign, edition)) {
                    layBehind(reign, ahead, counts >> ahead & 1);
                }
            }
        }

        private void layBehind(int reign, int ahead, int count) {
            int shortest = reigns.shortest(ahead, count) - reigns.overlap(reign);
            int longest = reigns.longest(ahead, count) - reigns.overlap(reign);
            lists.keep(ahead + 1, reign + 1, shortest, longest);
            if (reigns.isMisread(ahead) && shortest != longest) {
                put(forkBehind, forks, reign);
                put(forkLeast, forks, shortest);
                put(forkMost, forks, longest);
                forks++;
            }
        }

        /** Whether there is a ladder; only if all are wanted the ends of spans stand afterwards. */
        boolean find(int believed, int wish, boolean all) {
            found = false;
            if (!layTies(believed) || wish != NONE && !layPair(wishes, wish)) {
                return false;
            }
            for (int way = 0; way < 1 << forks; way++) {
                trial.copy(tiedLists);
                if (takeForks(way)) {
                    tryYears(all);
                }
                if (found && !all) {
                    return true;
                }
            }
            return found;
        }

        private boolean layTies(int believed) {
            tiedLists.copy(lists);
            firstSky = NONE;
            secondSky = NONE;
            for (int tie = 0; tie < ties.size(); tie++) {
                if ((believed & 1 << tie) != 0 && !layTie(tie)) {
                    return false;
                }
            }
            return true;
        }

        private boolean layTie(int tie) {
            int a = ties.fact(tie, Ties.A) + 1;
            switch (ties.fact(tie, Ties.SORT)) {
                case Ties.TIE:
                    return layPair(ties, tie);
                case Ties.SKY:
                    secondSky = firstSky;
                    firstSky = tie;
                    return true;
                case Ties.RING:
                    return tiedLists.hold(a, 0, -ties.beginning(tie, 0));
                default:
                    return tiedLists.hold(ties.fact(tie, Ties.B) + 1, a, -ties.shift(tie));
            }
        }

        private boolean layPair(Ties from, int tie) {
            int slack = from.fact(tie, Ties.SLACK);
            int shift = from.shift(tie);
            return tiedLists.keep(from.fact(tie, Ties.A) + 1, from.fact(tie, Ties.B) + 1, shift - slack, shift + slack);
        }

        private boolean takeForks(int way) {
            for (int fork = 0; fork < forks; fork++) {
                int years = at((way >> fork & 1) == 0 ? forkLeast : forkMost, fork);
                int behind = at(forkBehind, fork);
                int ahead = reigns.fact(behind, Reigns.AHEAD);
                if (!trial.keep(ahead + 1, behind + 1, years, years)) {
                    return false;
                }
            }
            return true;
        }

        private void tryYears(boolean all) {
            for (int one = 0; one < yearsOf(firstSky); one++) {
                int first = beginning(firstSky, one);
                for (int two = 0; two < yearsOf(secondSky); two++) {
                    int second = beginning(secondSky, two);
                    if (trial.allows(pointOf(firstSky), first, pointOf(secondSky), second)) {
                        widen(first, second);
                        found = true;
                    }
                    if (found && !all) {
                        return;
                    }
                }
            }
        }

        // No sky is read as one that sees the year 0 in the year 0.
        private int yearsOf(int sky) {
            return sky == NONE ? 1 : Ties.YEARS;
        }

        private int pointOf(int sky) {
            return sky == NONE ? 0 : ties.fact(sky, Ties.A) + 1;
        }

        private int beginning(int sky, int which) {
            return sky == NONE ? 0 : ties.beginning(sky, which);
        }

        private void widen(int first, int second) {
            int one = pointOf(firstSky);
            int two = pointOf(secondSky);
            for (int reign = 0; reign < reigns.size(); reign++) {
                int point = reign + 1;
                int late = Math.min(first + trial.most(one, point), second + trial.most(two, point));
                int early = Math.max(first - trial.most(point, one), second - trial.most(point, two));
                late = Math.min(late, trial.most(0, point));
                early = Math.max(early, -trial.most(point, 0));
                put(least, reign, found ? Math.min(at(least, reign), early) : early);
                put(greatest, reign, found ? Math.max(at(greatest, reign), late) : late);
            }
        }

        int end(int reign, int side) {
            if (!found || !reigns.isKnown(reign, edition)) {
                return NO_SPAN;
            }
            return at(side == 0 ? least : greatest, reign);
        }

        int openness() {
            int years = 0;
            for (int reign = 0; reign < reigns.size(); reign++) {
                years += end(reign, 1) - end(reign, 0);
            }
            return years;
        }

        void keepSpans() {
            for (int reign = 0; reign < reigns.size(); reign++) {
                put(keptLeast, reign, end(reign, 0));
                put(keptGreatest, reign, end(reign, 1));
            }
        }

        int firstUnlikeKept() {
            for (int reign = 0; reign < reigns.size(); reign++) {
                if (at(keptLeast, reign) != end(reign, 0) || at(keptGreatest, reign) != end(reign, 1)) {
                    return reign;
                }
            }
            return NONE;
        }
    }
}
