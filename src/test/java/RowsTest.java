/** Promises 32 to 35: ROWS of NIGHTS, and THE READER. */
final class RowsTest {
    private RowsTest() {
    }

    public static void main(String[] args) {
        proving();
        refusedProofs();
        altering();
        judging();
        judgingLater();
        Due.end();
    }

    private static void rows(TonightCovers x, int[][] want) {
        Due.is("how many ROWS", x.many(4), want.length);
        for (int i = 0; i < want.length; i++) {
            for (int what = 0; what < 3; what++) {
                Due.is("row(" + i + ", " + what + ")", x.row(i, what), want[i][what]);
            }
        }
        Due.is("a ROW behind the last", x.row(want.length, 0), -9);
    }

    private static void proving() {
        TonightCovers x = Due.told("player of 3 ill 1; page of 1 knows 97; part 3 2;", 2);
        x.teach(0, 4, 50);
        Due.is("prove(0, 3)", x.prove(0, 3), 3);
        // ill for a NIGHT, then at part 3: by its own LEARNT, at part 4 FORGOTTEN
        rows(x, new int[][] {{8, 60, 144}, {3, 62, 147 + 120}, {3, 64, 147 + 124}});
        Due.is("prove(1, 2)", x.prove(1, 2), 2);
        rows(x, new int[][] {{1, 99, 144}, {1, 99, 147 + 120}});
        Due.is("nothing changes", x.knows(1, 1), 97);
        Due.is("NIGHT", x.state(0), 0);
        // one whose part in that NIGHT isn't its own
        TonightCovers y = Due.told("second of 5 knows 20;", 1);
        Due.is("prove(0, 10)", y.prove(0, 10), 10);
        Due.is("its part", y.row(0, 0), 0);
        Due.is("what it KNOWS of its OWN", y.row(0, 1), 20);
        Due.is("SHOW", y.row(0, 2), 39);
        Due.is("ten", y.many(4), 10);
        Due.is("the tenth", y.row(9, 2), 3 * (13 + 9 * 4));
        Due.is("prove(0, 1)", y.prove(0, 1), 1);
        rows(y, new int[][] {{0, 20, 39}});
    }

    private static void refusedProofs() {
        TonightCovers x = Due.told("player of 3;", 1);
        Due.is("prove(0, 0)", x.prove(0, 0), TonightCovers.BAD);
        Due.is("prove(0, 11)", x.prove(0, 11), TonightCovers.BAD);
        Due.is("prove(1, 1)", x.prove(1, 1), TonightCovers.BAD);
        Due.is("prove(-1, 1)", x.prove(-1, 1), TonightCovers.BAD);
        Due.is("no ROWS", x.many(4), 0);
        Due.is("row(0, 0)", x.row(0, 0), -9);
        x.prove(0, 2);
        x.prove(0, 11);
        Due.is("ROWS stay", x.many(4), 2);
        Due.is("row(-1, 0)", x.row(-1, 0), -9);
        Due.is("row(0, 3)", x.row(0, 3), -9);
        Due.is("row(0, -1)", x.row(0, -1), -9);
        Due.is("row(2, 0)", x.row(2, 0), -9);
    }

    private static void altering() {
        TonightCovers x = Due.told("player of 3;", 1);
        Due.is("alterRow of none", x.alterRow(0, 0, 5), -9);
        x.prove(0, 2);
        Due.is("alterRow(1, 2, -77)", x.alterRow(1, 2, -77), 186);
        Due.is("row(1, 2)", x.row(1, 2), -77);
        Due.is("alterRow(1, 2, 186)", x.alterRow(1, 2, 186), -77);
        Due.is("alterRow(2, 0, 5)", x.alterRow(2, 0, 5), -9);
        Due.is("alterRow(-1, 0, 5)", x.alterRow(-1, 0, 5), -9);
        Due.is("alterRow(0, 3, 5)", x.alterRow(0, 3, 5), -9);
        Due.is("alterRow(0, -1, 5)", x.alterRow(0, -1, 5), -9);
        rows(x, new int[][] {{3, 62, 180}, {3, 64, 186}});
    }

    private static void judging() {
        TonightCovers x = Due.told("player of 3; player of 3 knows 50;", 2);
        Due.is("judge of none", x.judge(1), 0);
        Due.is("judge(2) of none", x.judge(2), TonightCovers.BAD);
        x.prove(0, 5);
        Due.is("all is right", x.judge(0), 0);
        Due.is("as those of another", x.judge(1), 1);
        Due.is("judge(-1)", x.judge(-1), TonightCovers.BAD);
        for (int i = 4; i >= 0; i--) {
            for (int what = 0; what < 3; what++) {
                int was = x.alterRow(i, what, 1234);
                Due.is("the first that isn't", x.judge(0), i + 1);
                x.alterRow(i, what, was);
                Due.is("right again", x.judge(0), 0);
            }
        }
        x.alterRow(4, 0, 1);
        x.alterRow(2, 1, 1);
        Due.is("the first of two", x.judge(0), 3);
    }

    private static void judgingLater() {
        TonightCovers x = Due.told("player of 3 knows 94;", 1);
        x.prove(0, 3);
        x.nights(1);
        Due.is("not from how it is now", x.judge(0), 1);
        x.teach(0, 3, 94);
        Due.is("as it was then", x.judge(0), 0);
        x.player(0, 5);
        Due.is("with one more", x.judge(0), 1);
    }
}
