/** What calls that are asked of a school and an edition have alike: which they know, and which they refuse first. */
final class Asked {
    interface Question {
        long of(ReignLadders x, int school, int edition);
    }

    private static final int[] NO_SCHOOLS = {-1, 2, Integer.MIN_VALUE, Integer.MAX_VALUE};
    private static final int[] NO_EDITIONS = {-1, 10, Integer.MIN_VALUE, Integer.MAX_VALUE};

    private final Edge.Maker maker;
    private final Question question;
    private final long unknown;
    private final long outside;

    Asked(Edge.Maker maker, Question question, long unknown, long outside) {
        this.maker = maker;
        this.question = question;
        this.unknown = unknown;
        this.outside = outside;
    }

    /** Both schools answer so. */
    void schools(long first, long second) {
        Edge.taken(maker, "school 0", x -> question.of(x, 0, 9), first);
        Edge.taken(maker, "school 1", x -> question.of(x, 1, 9), second);
        for (int school : NO_SCHOOLS) {
            Edge.refused(maker, "school " + school, x -> question.of(x, school, 9), unknown);
        }
    }

    /** The first and the last edition answer so. */
    void editions(long first, long last) {
        Edge.taken(maker, "edition 0", x -> question.of(x, 0, 0), first);
        Edge.taken(maker, "edition 9", x -> question.of(x, 0, 9), last);
        for (int edition : NO_EDITIONS) {
            Edge.refused(maker, "edition " + edition, x -> question.of(x, 0, edition), outside);
            Edge.refused(maker, "edition " + edition + " of school 1", x -> question.of(x, 1, edition), outside);
        }
    }

    void schoolFirst() {
        for (int school : NO_SCHOOLS) {
            for (int edition : NO_EDITIONS) {
                Edge.refused(maker, "school " + school + ", edition " + edition, x -> question.of(x, school, edition),
                        unknown);
            }
        }
    }

    /** The question is wrong in itself, too: what is told of the school and the edition is refused ahead of it. */
    static void aheadOfAll(Edge.Maker maker, Question wrong, long unknown, long outside) {
        Asked asked = new Asked(maker, wrong, unknown, outside);
        asked.schoolFirst();
        for (int school : NO_SCHOOLS) {
            Edge.refused(maker, "school " + school + " ahead of all", x -> wrong.of(x, school, 9), unknown);
        }
        for (int edition : NO_EDITIONS) {
            Edge.refused(maker, "edition " + edition + " ahead of all", x -> wrong.of(x, 0, edition), outside);
        }
    }
}
