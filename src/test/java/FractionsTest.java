/** Promises 30 and 31: ODDS and HOPE, as parts of a fraction. */
final class FractionsTest {
    private FractionsTest() {
    }

    public static void main(String[] args) {
        odds();
        sureOdds();
        refusedOdds();
        hope();
        Due.end();
    }

    private static void odds(int throat, int n, int k, long above, long below) {
        TonightCovers x = new TonightCovers();
        x.set(3, throat);
        String call = "odds(" + n + ", " + k + ") by " + throat;
        Due.is(call + ", above", x.odds(n, k, 0), above);
        Due.is(call + ", below", x.odds(n, k, 1), below);
    }

    private static void odds() {
        odds(20, 1, 1, 1, 5);
        odds(20, 1, 0, 4, 5);
        odds(20, 3, 1, 48, 125);
        odds(50, 8, 4, 35, 128);
        odds(99, 8, 8, 9227446944279201L, 10000000000000000L);
        odds(99, 8, 0, 1, 10000000000000000L);
        odds(1, 8, 1, 93206534790699L, 1250000000000000L);
        odds(37, 2, 1, 2331, 5000);
    }

    private static void sureOdds() {
        odds(20, 0, 0, 1, 1);
        odds(0, 0, 0, 1, 1);
        odds(0, 8, 0, 1, 1);
        odds(0, 8, 1, 0, 1);
        odds(0, 8, 8, 0, 1);
    }

    private static void refusedOdds() {
        TonightCovers x = new TonightCovers();
        Due.is("odds(9, 0, 0)", x.odds(9, 0, 0), TonightCovers.BAD);
        Due.is("odds(-1, 0, 0)", x.odds(-1, 0, 0), TonightCovers.BAD);
        Due.is("odds(3, 4, 0)", x.odds(3, 4, 0), TonightCovers.BAD);
        Due.is("odds(3, -1, 0)", x.odds(3, -1, 0), TonightCovers.BAD);
        Due.is("odds(3, 1, 2)", x.odds(3, 1, 2), TonightCovers.BAD);
        Due.is("odds(3, 1, -1)", x.odds(3, 1, -1), TonightCovers.BAD);
    }

    private static void hope() {
        TonightCovers x = new TonightCovers();
        int[][] want = {{20, 5, 1, 1}, {20, 0, 0, 1}, {20, 3, 3, 5}, {99, 99, 9801, 100}, {0, 7, 0, 1},
            {50, 8, 4, 1}, {75, 2, 3, 2}};
        for (int[] row : want) {
            x.set(3, row[0]);
            String call = "hope(" + row[1] + ") by " + row[0];
            Due.is(call + ", above", x.hope(row[1], 0), row[2]);
            Due.is(call + ", below", x.hope(row[1], 1), row[3]);
        }
        Due.is("hope(100, 0)", x.hope(100, 0), TonightCovers.BAD);
        Due.is("hope(-1, 0)", x.hope(-1, 0), TonightCovers.BAD);
        Due.is("hope(1, 2)", x.hope(1, 2), TonightCovers.BAD);
        Due.is("hope(1, -1)", x.hope(1, -1), TonightCovers.BAD);
    }
}
