/** Answers beside those that are due; every one that is not is printed, and the test ends with exit code 1. */
public final class Due {
    private static int wrong = 0;

    public static void is(String call, long got, long want) {
        if (got != want) {
            wrong++;
            System.out.println(call + " answered " + got + ", due is " + want);
        }
    }

    /** What is refused changes nothing: refused() answers so, and the digest is as it was. */
    static void refused(String call, ReignLadders x, long before, long got, long want) {
        is(call, got, want);
        is("digest() behind " + call, x.digest(), before);
    }

    /** Letters of the page, eight a call. */
    static void write(ReignLadders x, String letters) {
        for (int start = 0; start < letters.length(); start += 8) {
            x.letters(word(letters.substring(start, Math.min(letters.length(), start + 8))));
        }
    }

    static long word(String upToEight) {
        long w = 0;
        for (int i = upToEight.length() - 1; i >= 0; i--) {
            w = w << 8 | upToEight.charAt(i);
        }
        return w;
    }

    static int text(ReignLadders x, int school, String text) {
        x.blank();
        write(x, text);
        return x.text(school);
    }

    static void end() {
        System.out.println(wrong == 0 ? "all answers are as due" : wrong + " answers are not as due");
        if (wrong != 0) {
            System.exit(1);
        }
    }
}
