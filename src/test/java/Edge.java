import java.util.List;
import java.util.stream.IntStream;

/** Tests of edges, one for each sentence of the document that names one: what breaks is told by promise and sentence. */
final class Edge {
    static final int NONE = -1, UNKNOWN = -101, OUTSIDE = -102, STATE = -103, FULL = -104;
    static final int YEAR_UNKNOWN = -9001, YEAR_OUTSIDE = -9002, NO_SPAN = -9999;

    interface Maker {
        ReignLadders make();
    }

    interface Call {
        long on(ReignLadders x);
    }

    interface CallWith {
        long on(ReignLadders x, int value);
    }

    private static int sentences = 0;
    private static String sentence = "";

    static void holds(int promise, String its, Runnable test) {
        sentences++;
        sentence = "promise " + promise + ", " + its;
        try {
            test.run();
        } catch (RuntimeException thrown) {
            Due.is(sentence + ": " + thrown, 1, 0);
        }
    }

    static void is(String what, long got, long want) {
        Due.is(sentence + ": " + what, got, want);
    }

    /** A new object answers so. */
    static void taken(Maker maker, String what, Call call, long want) {
        is(what, call.on(maker.make()), want);
    }

    /** A new object answers so, and is then as one that was not called. */
    static void refused(Maker maker, String what, Call call, long want) {
        ReignLadders called = maker.make();
        is(what, call.on(called), want);
        List<String> got = Picture.of(called);
        List<String> before = Picture.of(maker.make());
        for (int i = 0; i < Math.min(got.size(), before.size()); i++) {
            if (!got.get(i).equals(before.get(i))) {
                is(what + " changes " + before.get(i) + " to " + got.get(i), 1, 0);
                return;
            }
        }
        is(what + " changes how much is told", got.size(), before.size());
    }

    /** Both ends are taken, each by a new object; the first value beyond each, and the last there is, are refused. */
    static void ends(Maker maker, int least, int most, CallWith call, long atLeast, long atMost, long refusal) {
        taken(maker, "the least, " + least, x -> call.on(x, least), atLeast);
        taken(maker, "the greatest, " + most, x -> call.on(x, most), atMost);
        beyond(maker, least, most, call, refusal);
    }

    static void beyond(Maker maker, int least, int most, CallWith call, long refusal) {
        for (int value : new int[] {least - 1, most + 1, Integer.MIN_VALUE, Integer.MAX_VALUE}) {
            refused(maker, "beyond, " + value, x -> call.on(x, value), refusal);
        }
    }

    /** In edition 0, by school 0. */
    static void span(ReignLadders x, int reign, int least, int greatest) {
        is("the least of " + reign, x.span(0, 0, reign, 0), least);
        is("the greatest of " + reign, x.span(0, 0, reign, 1), greatest);
    }

    /** What is told, but for one number. */
    static int[] with(int[] told, int place, int value) {
        int[] changed = told.clone();
        changed[place] = value;
        return changed;
    }

    static int[] from(int least, int most) {
        return IntStream.rangeClosed(least, most).toArray();
    }

    static boolean isOneOf(int[] values, int value) {
        return IntStream.of(values).anyMatch(one -> one == value);
    }

    static void end() {
        System.out.println(sentences + " sentences were tried");
        Due.end();
    }
}
