import java.util.Arrays;
import java.util.Random;

/**
 * Tiny worlds whose every ladder is tried: each land is held from below by a ring near the year 2000, so that few years
 * are left, and all lengths and years are gone through one by one.
 */
public final class TinyWorldsTest {
    private static final int FLOOR = 1985;

    private static Random lot;
    private static ReignLadders due;
    private static SlowModel model;
    private static int[] least;
    private static int[] most;
    private static boolean found;

    /** Every year of each first reign, every length of those ahead; what is a ladder, the document's words tell. */
    private static void tryAll(int reign, int[] begins) {
        if (reign == model.reigns.size()) {
            if (!model.isLadder(0, 9, model.believed(0, 9), begins)) {
                return;
            }
            found = true;
            for (int i = 0; i < begins.length; i++) {
                least[i] = Math.min(least[i], begins[i]);
                most[i] = Math.max(most[i], begins[i]);
            }
            return;
        }
        SlowModel.R r = model.reigns.get(reign);
        if (r.ahead == SlowModel.NONE) {
            for (begins[reign] = FLOOR; begins[reign] <= 2000; begins[reign]++) {
                tryAll(reign + 1, begins);
            }
            return;
        }
        for (int years : model.lengths(model.reigns.get(r.ahead), model.counts(0, r.ahead))) {
            begins[reign] = begins[r.ahead] + years - (r.kind == 1 ? r.m : 0);
            if (begins[reign] <= 2000) {
                tryAll(reign + 1, begins);
            }
        }
    }

    private static int both(int one, int two) {
        if (one != two) {
            throw new IllegalStateException("the model is told otherwise");
        }
        return one;
    }

    private static void reign(int land) {
        int[] kinds = {0, 0, 1, 2, 2, 3, 4, 5, 6};
        int kind = kinds[lot.nextInt(kinds.length)], n = 1 + lot.nextInt(5), m = lot.nextInt(n + 1);
        both(due.reign(land, kind, n, m, 0), model.reign(land, kind, n, m, 0));
    }

    private static void tie() {
        int a = lot.nextInt(model.reigns.size()), b = lot.nextInt(model.reigns.size());
        int x = 1 + lot.nextInt(6), y = 1 + lot.nextInt(6), s = lot.nextInt(3);
        int p = 1990 + lot.nextInt(12), q = Math.min(2000, p + lot.nextInt(3)), r = 1990 + lot.nextInt(11);
        p = Math.min(2000, p);
        switch (lot.nextInt(5)) {
            case 0: case 1: both(due.tie(a, x, b, y, s, 0), model.tie(a, x, b, y, s, 0)); break;
            case 2: both(due.sky(a, x, p, q, r, 0), model.sky(a, x, p, q, r, 0)); break;
            case 3: both(due.ring(a, x, r, 0), model.ring(a, x, r, 0)); break;
            default: both(due.letter(a, x, b, y, 0), model.letter(a, x, b, y, 0)); break;
        }
    }

    private static void world() {
        due = new ReignLadders();
        model = new SlowModel();
        int lands = 1 + lot.nextInt(3), more = 1 + lot.nextInt(lands == 3 ? 2 : 3);
        for (int land = 0; land < lands; land++) {
            int kind = lot.nextInt(7), first = kind == 1 ? 0 : kind, n = 1 + lot.nextInt(5), from = 1988 + lot.nextInt(9);
            both(due.reign(land, first, n, 0, 0), model.reign(land, first, n, 0, 0));
            both(due.ring(land, 1, from, 0), model.ring(land, 1, from, 0));
        }
        for (int reign = 0; reign < more; reign++) {
            reign(lot.nextInt(lands));
        }
        for (int tie = lot.nextInt(9 - lands); tie > 0; tie--) {
            tie();
        }
        if (lot.nextInt(3) == 0) {
            Due.text(due, 0, "C:1?n>2");
            model.texts.get(0).add("C:1?n>2");
        }
    }

    private static void compare(int run) {
        int size = model.reigns.size();
        least = new int[size];
        most = new int[size];
        Arrays.fill(least, Integer.MAX_VALUE);
        Arrays.fill(most, Integer.MIN_VALUE);
        found = false;
        tryAll(0, new int[size]);
        Due.is("world " + run + ": can(0, 9)", due.can(0, 9), found ? 1 : 0);
        for (int reign = 0; reign < size; reign++) {
            Due.is("world " + run + ": least of " + reign, due.span(0, 9, reign, 0), found ? least[reign] : -9999);
            Due.is("world " + run + ": greatest of " + reign, due.span(0, 9, reign, 1), found ? most[reign] : -9999);
        }
    }

    public static void main(String[] args) {
        int runs = args.length > 0 ? Integer.parseInt(args[0]) : 1500;
        int could = 0;
        for (int run = 0; run < runs; run++) {
            lot = new Random(run);
            world();
            compare(run);
            could += found ? 1 : 0;
        }
        System.out.println(could + " of " + runs + " tiny worlds have a ladder");
        Due.end();
    }
}
