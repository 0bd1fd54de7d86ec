import java.util.Random;

/** Long runs of calls by lot, each answer beside that of the slow model; what is refused may change nothing. */
public final class ModelTest {
    private static final int RUNS = 400, CALLS = 300;

    private static int wrong = 0;
    private static Random lot;
    private static ReignLadders due;
    private static SlowModel model;

    /** Mostly inside, at times on an edge or beyond it. */
    private static int from(int least, int most) {
        int way = lot.nextInt(60);
        if (way == 0) return least - 1;
        if (way == 1) return most + 1;
        if (way == 2) return lot.nextBoolean() ? Integer.MIN_VALUE : Integer.MAX_VALUE;
        if (way < 7) return least;
        if (way < 12) return most;
        return least + lot.nextInt(Math.max(1, most - least + 1));
    }

    private static int anyReign() { return from(0, model.reigns.size() - 1); }

    private static int edition() { return lot.nextInt(3) > 0 ? from(0, 3) : 9; }

    private static int year() { return lot.nextInt(8) == 0 ? from(-2000, 2000) : from(-40, 40); }

    private static int place() { return lot.nextInt(3) > 0 ? 1 + lot.nextInt(12) : from(1, 99); }

    private static final String[] PIECES = {"C:1", "C:0", "B:0", "B:1", "?", "n<15", "n>6", "k=0", "k>2", "l=1", "l<2",
        "r=3", "r>1", "&", "|", "!", "(", ")", "?!", "?(", "x", "n=100", "k<07"};

    private static long word() {
        if (lot.nextInt(25) == 0) return lot.nextLong();
        long w = 0;
        String piece = PIECES[lot.nextInt(PIECES.length)];
        for (int i = piece.length() - 1; i >= 0; i--) w = w << 8 | piece.charAt(i);
        return w;
    }

    private static String condition(int depth) {
        int way = lot.nextInt(depth > 0 ? 6 : 1);
        String atom = "" + "lknr".charAt(lot.nextInt(4)) + "<=>".charAt(lot.nextInt(3)) + lot.nextInt(lot.nextBoolean() ? 5 : 60);
        if (way == 1) return "!" + condition(depth - 1);
        if (way == 2) return "(" + condition(depth - 1) + ")";
        if (way == 3) return condition(depth - 1) + "&" + condition(depth - 1);
        if (way == 4) return condition(depth - 1) + "|" + condition(depth - 1);
        if (way == 5) return "!(" + condition(depth - 1) + ")";
        return atom;
    }

    private static boolean same(String call, long got, long want) {
        if (got != want) {
            wrong++;
            System.out.println(call + " answered " + got + ", due is " + want);
        }
        return got == want;
    }

    /** A whole text, letter by letter in words of eight. */
    private static boolean wholeText() {
        String text = (lot.nextBoolean() ? "C:" : "B:") + lot.nextInt(2) + (lot.nextInt(4) > 0 ? "?" + condition(3) : "");
        boolean fine = same("blank()", due.blank(), model.blank());
        for (int start = 0; start < text.length() && fine; start += 8) {
            long w = 0;
            for (int i = Math.min(text.length(), start + 8) - 1; i >= start; i--) w = w << 8 | text.charAt(i);
            fine = same("letters(" + w + ")", due.letters(w), model.letters(w));
        }
        int school = lot.nextInt(2);
        return fine && same("fault() of " + text, due.fault(), model.fault())
                && same("text(" + school + ") of " + text, due.text(school), model.text(school));
    }

    private static boolean told(int way) {
        int a = anyReign(), b = anyReign(), x = place(), y = place(), e = edition(), s = from(0, 20), t = year();
        switch (way) {
            case 0: case 1: case 2: case 3: {
                int land = lot.nextInt(3) > 0 ? lot.nextInt(2) : from(0, 4), kind = from(0, 6);
                int n = lot.nextInt(4) > 0 ? 1 + lot.nextInt(20) : from(1, 60), m = lot.nextInt(3) > 0 ? lot.nextInt(6) : from(0, 60);
                return same("reign " + land + " " + kind + " " + n + " " + m + " " + e,
                        due.reign(land, kind, n, m, e), model.reign(land, kind, n, m, e));
            }
            case 4: case 5: return same("tie", due.tie(a, x, b, y, s, e), model.tie(a, x, b, y, s, e));
            case 6: {
                int q = lot.nextBoolean() ? t : year(), r = lot.nextBoolean() ? q : year();
                return same("sky", due.sky(a, x, t, q, r, e), model.sky(a, x, t, q, r, e));
            }
            case 7: return same("ring", due.ring(a, x, t, e), model.ring(a, x, t, e));
            case 8: return same("letter", due.letter(a, x, b, y, e), model.letter(a, x, b, y, e));
            case 9: return same("undo()", due.undo(), model.undo());
            case 10: return same("number", due.number(a, s * 3), model.number(a, s * 3));
            case 11: return wholeText();
            case 12: { long w = word(); return same("letters(" + w + ")", due.letters(w), model.letters(w)); }
            case 13: { int school = from(0, 1); return same("text", due.text(school), model.text(school)); }
            case 14: { int school = from(0, 1); return same("strike", due.strike(school), model.strike(school)); }
            case 15: return lot.nextInt(3) > 0 || same("blank()", due.blank(), model.blank());
            case 16: return same("wish", due.wish(a, x, b, y, s), model.wish(a, x, b, y, s));
            default: return same("tell", due.tell(a, t), model.tell(a, t));
        }
    }

    private static boolean asked(int way) {
        int a = anyReign(), c = from(0, 1), e = from(0, 9), side = from(0, 1);
        switch (way) {
            case 0: { int w = from(0, 5); return same("about", due.about(a, w), model.about(a, w)); }
            case 1: { int k = from(0, 6); return same("as", due.as(a, k), model.as(a, k)); }
            case 2: { int w = from(0, 2); return same("lasts", due.lasts(a, c, w), model.lasts(a, c, w)); }
            case 3: {
                int t = from(0, model.ties.size() - 1), w = from(0, 6);
                return same("tied", due.tied(t, w), model.tied(t, w)) && same("believes", due.believes(c, t), model.believes(c, t));
            }
            case 4: return same("fault()", due.fault(), model.fault());
            case 5: return same("counts", due.counts(c, a), model.counts(c, a));
            case 6: return same("can", due.can(c, e), model.can(c, e));
            case 7: case 8: return same("span " + c + " " + e + " " + a + " " + side, due.span(c, e, a, side), model.span(c, e, a, side));
            case 9: case 10: return same("held", due.held(c, e, a, side), model.held(c, e, a, side));
            case 11: return lot.nextInt(4) > 0 || same("doubt", due.doubt(c, e, side), model.doubt(c, e, side));
            case 12: return same("floats", due.floats(c, e), model.floats(c, e));
            case 13: return same("open", due.open(c, e), model.open(c, e));
            case 14: return same("part()", due.part(), model.part());
            case 15: { int w = from(0, model.wishes.size() - 1); return same("closes", due.closes(c, e, w), model.closes(c, e, w)); }
            case 16: return same("best", due.best(c, e), model.best(c, e));
            case 17: return same("judge", due.judge(c), model.judge(c));
            default: { int w = from(0, 6); return same("count", due.count(w), model.count(w)); }
        }
    }

    public static void main(String[] args) {
        int runs = args.length > 0 ? Integer.parseInt(args[0]) : RUNS;
        int start = args.length > 1 ? Integer.parseInt(args[1]) : 0;
        for (int run = start; run < start + runs && wrong < 20; run++) {
            lot = new Random(run);
            due = new ReignLadders();
            model = new SlowModel();
            int telling = 20 + lot.nextInt(60);
            for (int call = 0; call < CALLS; call++) {
                boolean tells = lot.nextInt(100) < (call < 40 ? telling : 25);
                boolean fine = tells ? told(lot.nextInt(18)) : asked(lot.nextInt(19));
                if (fine && call % 10 == 9) fine = same("digest()", due.digest(), model.digest());
                if (!fine) {
                    System.out.println("in run " + run + ", call " + call);
                    break;
                }
            }
        }
        System.out.println(wrong == 0 ? "all answers are as due" : wrong + " answers are not as due");
        if (wrong != 0) System.exit(1);
    }
}
