/** What the tests share: answers compared with those that are due, and texts fed to THE TAPE. */
final class Due {
    private static int wrong = 0;

    private Due() {
    }

    static void is(String call, long got, long want) {
        if (got != want) {
            wrong++;
            System.out.println(call + " answered " + got + ", due is " + want);
        }
    }

    /** Ends the test, with exit code 1 if an answer was wrong. */
    static void end() {
        if (wrong > 0) {
            System.out.println(wrong + " answers are not as due");
            System.exit(1);
        }
    }

    /** Feeds a text, signs 0 to 255, in the fewest calls. */
    static void feed(TonightCovers x, String text) {
        for (int from = 0; from < text.length(); from += 8) {
            int n = Math.min(8, text.length() - from);
            long eight = 0;
            for (int i = n - 1; i >= 0; i--) {
                eight = eight << 8 | text.charAt(from + i) & 255;
            }
            is("feed of \"" + text + "\" at " + from, x.feed(eight, n), from + n);
        }
    }

    static TonightCovers told(String text, int players) {
        TonightCovers x = new TonightCovers();
        feed(x, text);
        is("company() of \"" + text + "\"", x.company(), players);
        return x;
    }
}
