/** Promises 13 to 19: letters, blank, fault, text, strike, counts, believes. */
public final class SchoolsTest {
    private static final int UNKNOWN = -101, OUTSIDE = -102, STATE = -103, FULL = -104;

    private static void thePage() {
        ReignLadders x = new ReignLadders();
        Due.is("letters(0)", x.letters(0), 0);
        Due.is("two letters", x.letters(Due.word("C:")), 2);
        Due.is("codes 1 and 126", x.letters(126 << 8 | 1), 4);
        Due.is("eight", x.letters(Due.word("12345678")), 12);
        long before = x.digest();
        Due.refused("a byte of 127", x, before, x.letters(127), OUTSIDE);
        Due.refused("a byte of 255", x, before, x.letters(-1L), OUTSIDE);
        Due.refused("the highest byte of 128", x, before, x.letters(0x8041414141414141L), OUTSIDE);
        Due.refused("a byte behind a 0", x, before, x.letters(0x410041L), OUTSIDE);
        Due.refused("a byte behind a first 0", x, before, x.letters(0x4100000000000000L), OUTSIDE);
        Due.is("blank()", x.blank(), 12);
        Due.is("blank() again", x.blank(), 0);
        for (int letters = 7; letters <= 56; letters += 7) {
            Due.is("letters up to " + letters, x.letters(Due.word("aaaaaaa")), letters);
        }
        long nearlyFull = x.digest();
        Due.refused("61 letters", x, nearlyFull, x.letters(Due.word("aaaaa")), FULL);
        Due.refused("OUTSIDE ahead of FULL", x, nearlyFull, x.letters(Due.word("aaaaaaa\u007f")), OUTSIDE);
        Due.is("60 letters", x.letters(Due.word("aaaa")), 60);
        Due.is("nothing more", x.letters(0), 60);
        Due.is("one more", x.letters(65), FULL);
    }

    private static void faultOf(String page, int place) {
        ReignLadders x = new ReignLadders();
        Due.write(x, page);
        Due.is("fault() of " + page, x.fault(), place);
        boolean text = place == page.length() && !page.isEmpty();
        if (!text) {
            Due.refused("text(1) of " + page, x, x.digest(), x.text(1), STATE);
        }
    }

    private static void faults() {
        String[] none = {"", "C", "B", "C:", "B:0", "C:1?", "C:1?!", "C:1?(", "C:1?((", "C:1?l", "C:1?l<", "C:1?l<5",
            "C:1?k=59", "C:1?n>0&", "C:1?r=1|", "C:1?(r=1)", "C:1?((r=1)&l<2|k>3", "C:1?!!(n=00)", "C:1?r=1&r=2|r=3&!r=4"};
        for (String page : none) {
            faultOf(page, page.length());
        }
        String[] faulty = {"c", "D:1", "C1", "C:2", "C::", "C:1!", "C:10", "C:1 ?", "C:1?a=1", "C:1??", "C:1?1", "C:1?)",
            "C:1?l1", "C:1?l!", "C:1?l=a", "C:1?l=-1", "C:1?l=123", "C:1?l=1)", "C:1?(l=1))", "C:1?l=1&&", "C:1?l=1|&",
            "C:1?()", "C:1?!)", "C:1?(l=1)1", "C:1?(l=1)(", "C:1?(l=1)!", "C:1?l=1(", "C:1?l=12!", "C:1?ll", "C:1?l<=",
            "C:1?(l=1)l", "\u0001", "C:1?&"};
        int[] places = {0, 0, 1, 2, 2, 3, 3, 3, 4, 4, 4, 4, 5, 5, 6, 6, 8, 7, 9, 8, 8, 5, 5, 9, 9, 9, 7, 8, 5, 6, 9, 0, 4};
        for (int i = 0; i < faulty.length; i++) {
            faultOf(faulty[i], places[i]);
        }
        ReignLadders x = new ReignLadders();
        Due.write(x, "C:0?!!!!!!!!!!!!!!!!!!!!!!!!!!!!!!!!!!!!!!!!!!!!!!!!!!!!!!!!");
        Due.is("fault() of 60 letters", x.fault(), 60);
        Due.is("text(0)", x.text(0), STATE);
        Due.write(x, "!");
        Due.is("count(4)", x.count(4), 60);
    }

    private static void wholeAndHalfTexts() {
        String[] whole = {"C:0", "B:1", "C:1?l<5", "B:0?k=59", "C:1?(r=1)", "C:1?!(((n>09)))", "B:1?r=1&r=2|r=3&!r=4"};
        for (String text : whole) {
            Due.is("text of " + text, Due.text(new ReignLadders(), 1, text), 1);
        }
        String[] half = {"C", "C:", "B:1?", "B:1?!", "B:1?l", "B:1?l>", "B:1?(", "B:1?(r=1", "B:1?((r=1)", "B:1?(((r=1)",
            "B:1?r=1|", "B:1?r=1&", "B:1?(r=1)&("};
        for (String text : half) {
            Due.is("text of " + text, Due.text(new ReignLadders(), 1, text), STATE);
        }
    }

    private static void textsAsLongAsThePage() {
        ReignLadders x = threeReigns();
        String exclamations = "!!!!!!!!!!!!!!!!!!!!!!!!!!!!!!!!!!!!!!!!!!!!!!!!!!!!!!";
        Due.is("a text of 60", Due.text(x, 0, "C:0?" + exclamations.substring(0, 52) + "r=00"), 1);
        Due.is("a text behind it", Due.text(x, 0, "C:1?r=0"), 2);
        Due.is("counts(0, 0)", x.counts(0, 0), 1);
        Due.is("counts(0, 1)", x.counts(0, 1), 0);
        Due.is("another of 60", Due.text(x, 0, "C:0?" + exclamations.substring(0, 51) + "(r=1)"), 3);
        Due.is("counts(0, 0) but for 1", x.counts(0, 0), 0);
        Due.is("counts(0, 1) but for 1", x.counts(0, 1), 0);
        x.strike(0);
        x.strike(0);
        Due.is("another in place of both", Due.text(x, 0, "C:1?!r=0"), 2);
        Due.is("counts(0, 0)", x.counts(0, 0), 0);
        Due.is("counts(0, 1)", x.counts(0, 1), 1);
        ReignLadders y = threeReigns();
        Due.text(y, 0, "B:0?(((((((((((((((((((((((((((n=5)))))))))))))))))))))))))))");
        Due.text(y, 0, "B:0?((((((((((((((((((((((((((n=05))))))))))))))))))))))))))");
        Due.is("count(2)", y.count(2), 1);
        Due.is("the page of 61", y.count(4), 0);
    }

    /** What a struck text leaves behind is not read. */
    private static void textsInEachOthersPlace() {
        ReignLadders x = threeReigns();
        Due.text(x, 0, "C:1?n=12");
        x.strike(0);
        Due.text(x, 0, "C:1?n=1");
        Due.is("counts(0, 1)", x.counts(0, 1), 0);
        x.strike(0);
        Due.text(x, 0, "C:1");
        Due.is("counts(0, 2)", x.counts(0, 2), 1);
        x.number(0, 19);
        Due.text(x, 0, "C:0?n=19");
        Due.is("counts(0, 0)", x.counts(0, 0), 0);
        Due.is("counts(0, 1) by the first text", x.counts(0, 1), 1);
    }

    private static void textsOfASchool() {
        ReignLadders x = new ReignLadders();
        Due.write(x, "C:1");
        long before = x.digest();
        Due.refused("text(2)", x, before, x.text(2), UNKNOWN);
        Due.refused("text(-1)", x, before, x.text(-1), UNKNOWN);
        Due.is("text(0)", x.text(0), 1);
        Due.is("the page behind it", x.count(4), 0);
        for (int more = 2; more <= 6; more++) {
            Due.is("text " + more, Due.text(x, 0, "C:0?n<9"), more);
        }
        Due.write(x, "B:1");
        Due.refused("a seventh", x, x.digest(), x.text(0), FULL);
        Due.is("text(1)", x.text(1), 1);
        Due.write(x, "B:");
        Due.refused("STATE ahead of FULL", x, x.digest(), x.text(0), STATE);
        x.blank();
        Due.refused("an empty page", x, x.digest(), x.text(1), STATE);
        Due.is("strike(0)", x.strike(0), 5);
        Due.is("strike(1)", x.strike(1), 0);
        Due.refused("strike(1) of none", x, x.digest(), x.strike(1), STATE);
        Due.refused("strike(2)", x, x.digest(), x.strike(2), UNKNOWN);
        Due.refused("strike(-1)", x, x.digest(), x.strike(-1), UNKNOWN);
        Due.is("a sixth again", Due.text(x, 0, "C:1?!!!!!!!!!!!!!!!!!!!!!!!!!!!!!!!!!!!!!!!!!!!!!!!!!!!!n<09"), 6);
    }

    /** Reigns 0 (land 0, kind 0, n 5), 1 (land 2, kind 5, n 12), 2 (land 0, kind 2, n 60). */
    private static ReignLadders threeReigns() {
        ReignLadders x = new ReignLadders();
        x.reign(0, 0, 5, 9, 0);
        x.reign(2, 5, 12, 9, 0);
        x.reign(0, 2, 60, 9, 0);
        return x;
    }

    /** For which of the three reigns a condition holds, as bits. */
    private static void meets(String condition, int bits) {
        ReignLadders x = threeReigns();
        Due.is("text C:1?" + condition, Due.text(x, 1, "C:1?" + condition), 1);
        for (int reign = 0; reign < 3; reign++) {
            Due.is(condition + " for " + reign, x.counts(1, reign), bits >> reign & 1);
            Due.is("the other school for " + reign, x.counts(0, reign), 0);
        }
    }

    private static void conditions() {
        meets("l=0", 5);
        meets("l=02", 2);
        meets("k=5", 2);
        meets("k<5", 5);
        meets("n=5", 1);
        meets("n>12", 4);
        meets("n>11", 6);
        meets("n<12", 1);
        meets("n=60", 4);
        meets("n=6", 0);
        meets("r=1", 2);
        meets("r>0", 6);
        meets("!r=1", 5);
        meets("!!r=1", 2);
        meets("r=0|r=2", 5);
        meets("r>0&r<2", 2);
        meets("r=2|r=1&l=0", 4);
        meets("(r=2|r=1)&l=2", 2);
        meets("r=1&l=0|r=2", 4);
        meets("!(r=2|r=1)", 1);
        meets("!(r=2|r=1)&r=1", 0);
        meets("!r=0&!r=2", 2);
        meets("!(!(r=0)&!((r=2)))", 5);
        meets("r=0|!(l=0)&(k=5|k=2)|n=60", 7);
        meets("(((((((((((((((((((((((((n<13)))))))))))))))))))))))))", 3);
        meets("!(l=0&!(r=2|!(n>5)))", 7);
        meets("!(l=0&!(r=2&!(n>5)))", 2);
        meets("(r=1)&(r=1)|(r=2)", 6);
        meets("r=1&(r=0|r=1|r=2)&!(r=0|r=2)", 2);
    }

    private static void theLastSpeaks() {
        ReignLadders x = threeReigns();
        Due.is("counts of no texts", x.counts(0, 0), 0);
        Due.text(x, 0, "C:1");
        Due.text(x, 0, "C:0?r=1");
        Due.text(x, 0, "B:0");
        Due.is("counts(0, 0)", x.counts(0, 0), 1);
        Due.is("counts(0, 1)", x.counts(0, 1), 0);
        Due.text(x, 0, "C:1?l=2");
        Due.is("counts(0, 1) by a later text", x.counts(0, 1), 1);
        x.strike(0);
        Due.is("counts(0, 1) without it", x.counts(0, 1), 0);
        Due.text(x, 0, "C:0?n>50");
        Due.is("counts(0, 2)", x.counts(0, 2), 0);
        x.number(2, 50);
        Due.is("counts(0, 2) of another NUMBER", x.counts(0, 2), 1);
        Due.is("counts(2, 0)", x.counts(2, 0), UNKNOWN);
        Due.is("counts(-1, 0)", x.counts(-1, 0), UNKNOWN);
        Due.is("counts(0, 3)", x.counts(0, 3), UNKNOWN);
        Due.is("counts(0, -1)", x.counts(0, -1), UNKNOWN);
    }

    /** For which of four ties a condition holds, as bits. */
    private static void believed(String condition, int bits) {
        ReignLadders x = threeReigns();
        x.tie(0, 30, 1, 4, 3, 0);
        x.sky(1, 31, 1, 2, 3, 0);
        x.ring(2, 1, 0, 9);
        x.letter(1, 2, 0, 99, 0);
        Due.is("text B:0?" + condition, Due.text(x, 0, "B:0?" + condition), 1);
        for (int tie = 0; tie < 4; tie++) {
            Due.is(condition + " for tie " + tie, x.believes(0, tie), 1 - (bits >> tie & 1));
            Due.is("the other school for tie " + tie, x.believes(1, tie), 1);
        }
    }

    private static void beliefs() {
        believed("l=0", 5);
        believed("l=2", 10);
        believed("k=0", 1);
        believed("k=1", 2);
        believed("k=2", 4);
        believed("k=3", 8);
        believed("n=30", 1);
        believed("n>30", 2);
        believed("n<3", 12);
        believed("r=3", 8);
        believed("r<2&!k=0", 2);
        ReignLadders x = threeReigns();
        x.ring(0, 1, 0, 0);
        Due.text(x, 0, "C:0");
        Due.is("a text of C says nothing of ties", x.believes(0, 0), 1);
        Due.text(x, 0, "B:0");
        Due.text(x, 0, "B:1?r=0");
        Due.is("the last of B", x.believes(0, 0), 1);
        x.strike(0);
        Due.is("the one ahead of it", x.believes(0, 0), 0);
        Due.is("a text of B says nothing of reigns", x.counts(0, 0), 0);
        Due.is("believes(2, 0)", x.believes(2, 0), UNKNOWN);
        Due.is("believes(-1, 0)", x.believes(-1, 0), UNKNOWN);
        Due.is("believes(0, 1)", x.believes(0, 1), UNKNOWN);
        Due.is("believes(0, -1)", x.believes(0, -1), UNKNOWN);
    }

    public static void main(String[] args) {
        thePage();
        faults();
        wholeAndHalfTexts();
        textsAsLongAsThePage();
        textsInEachOthersPlace();
        textsOfASchool();
        conditions();
        theLastSpeaks();
        beliefs();
        Due.end();
    }
}
