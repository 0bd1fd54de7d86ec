/** Objects that many tests of edges begin with. */
final class Worlds {
    /** REIGNS 0 and 1 of 10 years, each the first of its LAND. */
    static ReignLadders two() {
        return firsts(2);
    }

    /** REIGNS 0, 1 and 2 of 10 years, each the first of its LAND. */
    static ReignLadders three() {
        return firsts(3);
    }

    /** Ten REIGNS of 10 years, two of each LAND: 0 and 5, 1 and 6, and so on. */
    static ReignLadders ten() {
        return firsts(10);
    }

    private static ReignLadders firsts(int reigns) {
        ReignLadders x = new ReignLadders();
        for (int reign = 0; reign < reigns; reign++) {
            x.reign(reign % 5, 0, 10, 0, 0);
        }
        return x;
    }

    /** As two(), and REIGN 1 begins from 0 to 9, held by SKY 0 and TIE 1. */
    static ReignLadders tied() {
        ReignLadders x = two();
        skyIn(x, 0, 0);
        x.tie(1, 5, 0, 1, 4, 0);
        return x;
    }

    /** As tied(), but there is no LADDER: RING 2 and what SKY 0 tells do not go along. */
    static ReignLadders none() {
        ReignLadders x = tied();
        x.ring(0, 1, 1, 0);
        return x;
    }

    /** A REIGN begins in a year, and in no other. */
    static void skyIn(ReignLadders x, int reign, int year) {
        x.sky(reign, 1, year, year, year, 0);
    }
}
