import java.util.ArrayList;
import java.util.List;

/**
 * The document's words told a second time, slowly and in another way: texts are read by descent, ladders are found by
 * moving the earliest and latest years of each reading together until nothing moves.
 */
final class SlowModel {
    static final int NONE = -1, UNKNOWN = -101, OUTSIDE = -102, STATE = -103, FULL = -104;

    static final class R { int land, kind, n, m, edition, ahead, told; }

    static final class T { int sort, a, x, b = NONE, y = NONE, slack = NONE, edition; int[] years = new int[3]; }

    final List<R> reigns = new ArrayList<>();
    final List<T> ties = new ArrayList<>();
    final List<T> wishes = new ArrayList<>();
    final List<List<String>> texts = List.of(new ArrayList<>(), new ArrayList<>());
    final StringBuilder page = new StringBuilder();
    int doubts = 0;

    static boolean out(int v, int least, int most) { return v < least || v > most; }

    boolean no(int reign) { return out(reign, 0, reigns.size() - 1); }

    // ---- lists

    int reign(int land, int kind, int n, int m, int edition) {
        if (out(land, 0, 4) || out(kind, 0, 6) || out(n, 1, 60) || out(m, 0, 60) || out(edition, 0, 9)) return OUTSIDE;
        if (kind == 1 && m > n) return OUTSIDE;
        int ahead = NONE, misread = 0;
        for (int i = 0; i < reigns.size(); i++) {
            if (reigns.get(i).land == land) ahead = i;
            if (reigns.get(i).kind == 3 || reigns.get(i).kind == 6) misread++;
        }
        if (ahead >= 0 && edition < reigns.get(ahead).edition) return OUTSIDE;
        if (kind == 1 && ahead < 0) return STATE;
        if (reigns.size() == 10) return FULL;
        if ((kind == 3 || kind == 6) && misread == 3) return FULL;
        R r = new R();
        r.land = land; r.kind = kind; r.n = n; r.m = m; r.edition = edition; r.ahead = ahead;
        reigns.add(r);
        return reigns.size() - 1;
    }

    int about(int reign, int what) {
        if (no(reign)) return UNKNOWN;
        if (out(what, 0, 5)) return OUTSIDE;
        R r = reigns.get(reign);
        return new int[] {r.land, r.kind, r.n, r.m, r.edition, r.ahead}[what];
    }

    int as(int reign, int kind) {
        if (no(reign)) return UNKNOWN;
        if (out(kind, 0, 6)) return OUTSIDE;
        int own = reigns.get(reign).kind;
        return kind == 0 || kind == own || own == 6 && kind == 3 ? reign : NONE;
    }

    /** All lengths, least first. */
    List<Integer> lengths(R r, int count) {
        List<Integer> all = new ArrayList<>();
        for (int years = 0; years <= 60; years++) {
            boolean may = years == r.n - count;
            if (r.kind == 2) may = years <= r.n - count;
            if (r.kind == 3) may |= years == r.m - count || years == 0 && r.m < count;
            if (r.kind == 5) may = years >= 1;
            if (r.kind == 6) may |= years == 0;
            if (may) all.add(years);
        }
        return all;
    }

    int lasts(int reign, int count, int which) {
        if (no(reign)) return UNKNOWN;
        if (out(count, 0, 1) || out(which, 0, 2)) return OUTSIDE;
        List<Integer> all = lengths(reigns.get(reign), count);
        return which == 0 ? all.get(0) : which == 1 ? all.get(all.size() - 1) : all.size();
    }

    int number(int reign, int n) {
        if (no(reign)) return UNKNOWN;
        R r = reigns.get(reign);
        if (out(n, 1, 60) || r.kind == 1 && n < r.m) return OUTSIDE;
        int was = r.n;
        r.n = n;
        return was;
    }

    // ---- ties

    boolean noPair(int a, int b) { return no(a) || no(b) || a == b; }

    int put(List<T> where, int sort, int a, int x, int b, int y, int slack, int edition) {
        T t = new T();
        t.sort = sort; t.a = a; t.x = x; t.b = b; t.y = y; t.slack = slack; t.edition = edition;
        where.add(t);
        return where.size() - 1;
    }

    int tie(int a, int x, int b, int y, int slack, int edition) {
        if (noPair(a, b)) return UNKNOWN;
        if (out(x, 1, 99) || out(y, 1, 99) || out(slack, 0, 20) || out(edition, 0, 9)) return OUTSIDE;
        return ties.size() == 8 ? FULL : put(ties, 0, a, x, b, y, slack, edition);
    }

    int sky(int a, int x, int p, int q, int r, int edition) {
        if (no(a)) return UNKNOWN;
        if (out(x, 1, 99) || out(p, -2000, 2000) || out(q, -2000, 2000) || out(r, -2000, 2000)) return OUTSIDE;
        if (out(edition, 0, 9)) return OUTSIDE;
        int skies = 0;
        for (T t : ties) if (t.sort == 1) skies++;
        if (ties.size() == 8 || skies == 2) return FULL;
        int made = put(ties, 1, a, x, NONE, NONE, NONE, edition);
        ties.get(made).years = new int[] {p, q, r};
        return made;
    }

    int ring(int a, int x, int year, int edition) {
        if (no(a)) return UNKNOWN;
        if (out(x, 1, 99) || out(year, -2000, 2000) || out(edition, 0, 9)) return OUTSIDE;
        if (ties.size() == 8) return FULL;
        int made = put(ties, 2, a, x, NONE, NONE, NONE, edition);
        ties.get(made).years[0] = year;
        return made;
    }

    int letter(int a, int x, int b, int y, int edition) {
        if (noPair(a, b)) return UNKNOWN;
        if (out(x, 1, 99) || out(y, 1, 99) || out(edition, 0, 9)) return OUTSIDE;
        return ties.size() == 8 ? FULL : put(ties, 3, a, x, b, y, NONE, edition);
    }

    int tied(int tie, int what) {
        if (out(tie, 0, ties.size() - 1)) return UNKNOWN;
        if (out(what, 0, 6)) return OUTSIDE;
        T t = ties.get(tie);
        return new int[] {t.sort, t.a, t.x, t.b, t.y, t.slack, t.edition}[what];
    }

    int undo() {
        if (ties.isEmpty()) return STATE;
        ties.remove(ties.size() - 1);
        return ties.size();
    }

    // ---- schools

    int letters(long w) {
        StringBuilder told = new StringBuilder();
        boolean ended = false;
        for (int i = 0; i < 8; i++) {
            int code = (int) ((w >> (8 * i)) & 0xff);
            if (code > 126 || ended && code != 0) return OUTSIDE;
            if (code == 0) ended = true; else told.append((char) code);
        }
        if (page.length() + told.length() > 60) return FULL;
        page.append(told);
        return page.length();
    }

    int blank() {
        int had = page.length();
        page.setLength(0);
        return had;
    }

    /** Reads by descent and stops where nothing fits; at the end of the letters it stops there, too. */
    static final class Reader {
        final String s;
        int at = 0;
        boolean stopped = false;

        Reader(String s) { this.s = s; }

        boolean sees(String any) { return !stopped && at < s.length() && any.indexOf(s.charAt(at)) >= 0; }

        char eat(String any) {
            if (sees(any)) return s.charAt(at++);
            stopped = true;
            return 0;
        }

        /** {l, k, n, r} of the one asked for; null where only the form counts. */
        int[] of;

        boolean condition() {
            boolean holds = term();
            while (sees("|")) { eat("|"); holds |= term(); }
            return holds;
        }

        boolean term() {
            boolean holds = factor();
            while (sees("&")) { eat("&"); holds &= factor(); }
            return holds;
        }

        boolean factor() {
            if (sees("!")) { eat("!"); return !factor(); }
            if (sees("(")) {
                eat("(");
                boolean holds = condition();
                eat(")");
                return holds;
            }
            char letter = eat("lknr"), sign = eat("<=>"), first = eat("0123456789");
            if (stopped) return false;
            int value = first - '0';
            if (sees("0123456789")) value = 10 * value + eat("0123456789") - '0';
            int left = of == null ? 0 : of["lknr".indexOf(letter)];
            return sign == '<' ? left < value : sign == '>' ? left > value : left == value;
        }

        boolean text() {
            eat("CB");
            eat(":");
            eat("01");
            boolean holds = true;
            if (sees("?")) { eat("?"); holds = condition(); }
            return holds;
        }
    }

    int fault() {
        Reader reader = new Reader(page.toString());
        reader.text();
        return reader.at;
    }

    int text(int school) {
        if (out(school, 0, 1)) return UNKNOWN;
        Reader reader = new Reader(page.toString());
        reader.text();
        if (reader.stopped || reader.at < page.length()) return STATE;
        if (texts.get(school).size() == 6) return FULL;
        texts.get(school).add(page.toString());
        page.setLength(0);
        return texts.get(school).size();
    }

    int strike(int school) {
        if (out(school, 0, 1)) return UNKNOWN;
        List<String> own = texts.get(school);
        if (own.isEmpty()) return STATE;
        own.remove(own.size() - 1);
        return own.size();
    }

    int says(int school, char act, int otherwise, int... of) {
        int says = otherwise;
        for (String text : texts.get(school)) {
            Reader reader = new Reader(text);
            reader.of = of;
            if (text.charAt(0) == act && reader.text()) says = text.charAt(2) - '0';
        }
        return says;
    }

    int counts(int school, int reign) {
        if (out(school, 0, 1) || no(reign)) return UNKNOWN;
        R r = reigns.get(reign);
        return says(school, 'C', 0, r.land, r.kind, r.n, reign);
    }

    int believes(int school, int tie) {
        if (out(school, 0, 1) || out(tie, 0, ties.size() - 1)) return UNKNOWN;
        T t = ties.get(tie);
        return says(school, 'B', 1, reigns.get(t.a).land, t.sort, t.x, tie);
    }

    // ---- ladders

    boolean known(int reign, int edition) { return reigns.get(reign).edition <= edition; }

    boolean known(T t, int edition) {
        return t.edition <= edition && known(t.a, edition) && (t.b == NONE || known(t.b, edition));
    }

    List<T> believed(int school, int edition) {
        List<T> all = new ArrayList<>();
        for (int i = 0; i < ties.size(); i++) {
            if (believes(school, i) == 1 && known(ties.get(i), edition)) all.add(ties.get(i));
        }
        return all;
    }

    boolean holds(T t, int[] begins) {
        int year = begins[t.a] + t.x - 1;
        int other = t.b == NONE ? 0 : begins[t.b] + t.y - 1;
        switch (t.sort) {
            case 0: return year - other <= t.slack && other - year <= t.slack;
            case 1: return year == t.years[0] || year == t.years[1] || year == t.years[2];
            case 2: return year >= t.years[0];
            default: return year <= other;
        }
    }

    boolean follows(int school, int reign, int[] begins) {
        R r = reigns.get(reign);
        if (r.ahead == NONE) return true;
        int end = begins[reign] + (r.kind == 1 ? r.m : 0);
        return lengths(reigns.get(r.ahead), counts(school, r.ahead)).contains(end - begins[r.ahead]);
    }

    boolean isLadder(int school, int edition, List<T> believed, int[] begins) {
        for (int i = 0; i < reigns.size(); i++) {
            if (!known(i, edition)) continue;
            if (out(begins[i], -2000, 2000) || !follows(school, i, begins)) return false;
        }
        for (T t : believed) if (!holds(t, begins)) return false;
        return true;
    }

    /** {least, greatest} of each reign; null without a ladder. */
    int[][] spans(int school, int edition, List<T> believed) {
        int size = reigns.size();
        int[] least = new int[size], most = new int[size];
        for (int i = 0; i < size; i++) {
            least[i] = -2000;
            most[i] = 2000;
        }
        return narrow(school, edition, believed, least, most, 0, 0, new int[size]);
    }

    /** Chooses a length of each misread reign, then a year of each sky, then narrows. */
    int[][] narrow(int school, int edition, List<T> believed, int[] least, int[] most, int reign, int tie, int[] length) {
        if (reign < reigns.size()) {
            R r = reigns.get(reign);
            boolean choose = r.kind == 3 || r.kind == 6;
            int[][] all = null;
            for (int years : choose ? lengths(r, counts(school, reign)) : List.of(NONE)) {
                length[reign] = years;
                all = join(all, narrow(school, edition, believed, least, most, reign + 1, tie, length));
            }
            return all;
        }
        if (tie < believed.size()) {
            T t = believed.get(tie);
            if (t.sort != 1) return narrow(school, edition, believed, least, most, reign, tie + 1, length);
            int[][] all = null;
            for (int year : t.years) {
                int begins = year - t.x + 1;
                if (begins < least[t.a] || begins > most[t.a]) continue;
                int[] l = least.clone(), m = most.clone();
                l[t.a] = begins;
                m[t.a] = begins;
                all = join(all, narrow(school, edition, believed, l, m, reign, tie + 1, length));
            }
            return all;
        }
        return settle(school, edition, believed, least.clone(), most.clone(), length);
    }

    int[][] join(int[][] one, int[][] two) {
        if (one == null) return two;
        if (two == null) return one;
        for (int i = 0; i < one[0].length; i++) {
            one[0][i] = Math.min(one[0][i], two[0][i]);
            one[1][i] = Math.max(one[1][i], two[1][i]);
        }
        return one;
    }

    private boolean moved;

    /** b begins from low to high years behind a. */
    void apart(int[] least, int[] most, int a, int b, int low, int high) {
        int[] was = {least[a], most[a], least[b], most[b]};
        least[b] = Math.max(least[b], least[a] + low);
        most[b] = Math.min(most[b], most[a] + high);
        least[a] = Math.max(least[a], least[b] - high);
        most[a] = Math.min(most[a], most[b] - low);
        moved |= was[0] != least[a] || was[1] != most[a] || was[2] != least[b] || was[3] != most[b];
    }

    int[][] settle(int school, int edition, List<T> believed, int[] least, int[] most, int[] length) {
        do {
            moved = false;
            for (int i = 0; i < reigns.size(); i++) {
                R r = reigns.get(i);
                if (!known(i, edition) || r.ahead == NONE) continue;
                List<Integer> all = lengths(reigns.get(r.ahead), counts(school, r.ahead));
                int low = length[r.ahead] == NONE ? all.get(0) : length[r.ahead];
                int high = length[r.ahead] == NONE ? all.get(all.size() - 1) : length[r.ahead];
                int over = r.kind == 1 ? r.m : 0;
                apart(least, most, r.ahead, i, low - over, high - over);
            }
            for (T t : believed) {
                if (t.sort == 0) apart(least, most, t.a, t.b, t.x - t.y - t.slack, t.x - t.y + t.slack);
                if (t.sort == 3) apart(least, most, t.a, t.b, t.x - t.y, 100000);
                if (t.sort == 2 && least[t.a] < t.years[0] - t.x + 1) { least[t.a] = t.years[0] - t.x + 1; moved = true; }
            }
            for (int i = 0; i < reigns.size(); i++) if (least[i] > most[i]) return null;
        } while (moved);
        // All earliest years are a ladder, and all latest ones: if not, this model is wrong itself.
        if (!isLadder(school, edition, believed, least) || !isLadder(school, edition, believed, most)) {
            throw new IllegalStateException("the model is wrong");
        }
        return new int[][] {least, most};
    }

    int refusal(int school, int edition) { return out(school, 0, 1) ? UNKNOWN : out(edition, 0, 9) ? OUTSIDE : 0; }

    int can(int school, int edition) {
        if (refusal(school, edition) != 0) return refusal(school, edition);
        return spans(school, edition, believed(school, edition)) == null ? 0 : 1;
    }

    int end(int[][] spans, int edition, int reign, int side) {
        return spans == null || !known(reign, edition) ? -9999 : spans[side][reign];
    }

    int span(int school, int edition, int reign, int side) {
        if (out(school, 0, 1)) return -9001;
        if (out(edition, 0, 9)) return -9002;
        if (no(reign)) return -9001;
        if (out(side, 0, 1)) return -9002;
        return end(spans(school, edition, believed(school, edition)), edition, reign, side);
    }

    int held(int school, int edition, int reign, int side) {
        if (refusal(school, edition) != 0) return refusal(school, edition);
        if (no(reign)) return UNKNOWN;
        if (out(side, 0, 1)) return OUTSIDE;
        List<T> believed = believed(school, edition);
        int end = end(spans(school, edition, believed), edition, reign, side);
        int bits = 0;
        for (T t : believed) {
            List<T> fewer = new ArrayList<>(believed);
            fewer.remove(t);
            if (end != -9999 && end(spans(school, edition, fewer), edition, reign, side) != end) bits |= 1 << ties.indexOf(t);
        }
        return bits;
    }

    int doubt(int school, int edition, int what) {
        if (refusal(school, edition) != 0) return refusal(school, edition);
        if (out(what, 0, 1)) return OUTSIDE;
        if (doubts == 10) return STATE;
        doubts++;
        List<T> believed = believed(school, edition);
        int best = NONE, others = 0;
        for (int bits = 0; bits < 1 << ties.size(); bits++) {
            List<T> left = new ArrayList<>();
            int doubted = 0;
            for (int i = 0; i < ties.size(); i++) {
                boolean out = (bits >> i & 1) == 1;
                if (believed.contains(ties.get(i)) && !out) left.add(ties.get(i));
                if (believed.contains(ties.get(i)) && out) doubted++;
            }
            if (doubted != Integer.bitCount(bits) || spans(school, edition, left) == null) continue;
            if (best == NONE || Integer.bitCount(bits) < Integer.bitCount(best)) {
                best = bits;
                others = 0;
            } else if (Integer.bitCount(bits) == Integer.bitCount(best)) {
                others++;
            }
        }
        return best == NONE ? NONE : what == 0 ? best : others;
    }

    int floats(int school, int edition) {
        if (refusal(school, edition) != 0) return refusal(school, edition);
        List<T> believed = believed(school, edition);
        int bits = 0;
        for (int i = 0; i < reigns.size(); i++) {
            if (known(i, edition) && !reaches(i, edition, believed, new boolean[10])) bits |= 1 << i;
        }
        return bits;
    }

    boolean reaches(int reign, int edition, List<T> believed, boolean[] seen) {
        if (seen[reign]) return false;
        seen[reign] = true;
        for (T t : believed) {
            if (t.b == NONE && t.a == reign) return true;
            if (t.b != NONE && t.a == reign && reaches(t.b, edition, believed, seen)) return true;
            if (t.b == reign && reaches(t.a, edition, believed, seen)) return true;
        }
        for (int i = 0; i < reigns.size(); i++) {
            boolean near = reigns.get(i).land == reigns.get(reign).land && known(i, edition);
            if (near && reaches(i, edition, believed, seen)) return true;
        }
        return false;
    }

    int openness(int school, int edition, List<T> believed) {
        int[][] spans = spans(school, edition, believed);
        if (spans == null) return NONE;
        int years = 0;
        for (int i = 0; i < reigns.size(); i++) if (known(i, edition)) years += spans[1][i] - spans[0][i];
        return years;
    }

    int open(int school, int edition) {
        if (refusal(school, edition) != 0) return refusal(school, edition);
        return openness(school, edition, believed(school, edition));
    }

    int part() {
        for (int i = 0; i < reigns.size(); i++) {
            if (span(0, 9, i, 0) != span(1, 9, i, 0) || span(0, 9, i, 1) != span(1, 9, i, 1)) return i;
        }
        return NONE;
    }

    // ---- wishes, ladders told

    int wish(int a, int x, int b, int y, int slack) {
        if (noPair(a, b)) return UNKNOWN;
        if (out(x, 1, 99) || out(y, 1, 99) || out(slack, 0, 20)) return OUTSIDE;
        return wishes.size() == 6 ? FULL : put(wishes, 0, a, x, b, y, slack, 0);
    }

    int closes(int school, int edition, int wish) {
        if (refusal(school, edition) != 0) return refusal(school, edition);
        if (out(wish, 0, wishes.size() - 1)) return UNKNOWN;
        List<T> with = believed(school, edition);
        int before = openness(school, edition, with);
        if (before == NONE || !known(wishes.get(wish), edition)) return NONE;
        with.add(wishes.get(wish));
        int after = openness(school, edition, with);
        return after == NONE ? NONE : before - after;
    }

    int best(int school, int edition) {
        if (refusal(school, edition) != 0) return refusal(school, edition);
        int best = NONE;
        for (int i = wishes.size() - 1; i >= 0; i--) {
            int closes = closes(school, edition, i);
            if (closes != NONE && (best == NONE || closes >= closes(school, edition, best))) best = i;
        }
        return best;
    }

    int tell(int reign, int year) {
        if (no(reign)) return -9001;
        if (out(year, -2000, 2000)) return -9002;
        int was = reigns.get(reign).told;
        reigns.get(reign).told = year;
        return was;
    }

    int judge(int school) {
        if (out(school, 0, 1)) return UNKNOWN;
        int[] begins = new int[reigns.size()];
        for (int i = 0; i < begins.length; i++) begins[i] = reigns.get(i).told;
        for (int i = 0; i < begins.length; i++) if (!follows(school, i, begins)) return 100 + i;
        for (int i = 0; i < ties.size(); i++) {
            if (believes(school, i) == 1 && !holds(ties.get(i), begins)) return 200 + i;
        }
        return NONE;
    }

    // ---- what is told

    int count(int what) {
        if (out(what, 0, 6)) return OUTSIDE;
        return new int[] {reigns.size(), ties.size(), texts.get(0).size(), texts.get(1).size(), page.length(),
            wishes.size(), doubts}[what];
    }

    long digest() {
        List<Integer> all = new ArrayList<>();
        for (int i = 0; i < reigns.size(); i++) {
            for (int what = 0; what < 6; what++) all.add(about(i, what));
            all.add(reigns.get(i).told);
        }
        for (int i = 0; i < ties.size(); i++) {
            for (int what = 0; what < 7; what++) all.add(tied(i, what));
            if (ties.get(i).sort == 1) for (int year : ties.get(i).years) all.add(year);
        }
        for (int school = 0; school < 2; school++) {
            for (int i = 0; i < reigns.size(); i++) all.add(counts(school, i));
            for (int i = 0; i < ties.size(); i++) all.add(believes(school, i));
            all.add(can(school, 9));
            all.add(floats(school, 9));
        }
        for (T t : wishes) all.addAll(List.of(t.a, t.x, t.b, t.y, t.slack));
        for (int i = 0; i < page.length(); i++) all.add((int) page.charAt(i));
        for (int what = 0; what <= 6; what++) all.add(count(what));
        long h = 293;
        for (int number : all) h = 31 * h + number;
        return h;
    }
}
