/** Promises 8 to 14: PLAYERS, what they know and do. */
final class PlayersTest {
    private PlayersTest() {
    }

    public static void main(String[] args) {
        oneMore();
        ofOne();
        knowing();
        doing();
        minding();
        teaching();
        illness();
        Due.end();
    }

    private static void oneMore() {
        TonightCovers x = new TonightCovers();
        Due.is("player(6, 0)", x.player(6, 0), TonightCovers.BAD);
        Due.is("player(-1, 0)", x.player(-1, 0), TonightCovers.BAD);
        Due.is("player(0, 8)", x.player(0, 8), TonightCovers.BAD);
        Due.is("player(0, -1)", x.player(0, -1), TonightCovers.BAD);
        Due.is("nobody came", x.many(0), 0);
        for (int i = 0; i < 8; i++) {
            Due.is("player " + i, x.player(i % 6, 7 - i), i);
            Due.is("how many", x.many(0), i + 1);
            for (int part = 0; part < 8; part++) {
                Due.is("KNOWS of one new", x.knows(i, part), part == 7 - i ? 60 : 0);
            }
            Due.is("ILL of one new", x.of(i, 2), 0);
        }
        Due.is("a ninth one", x.player(0, 0), TonightCovers.FULL);
        Due.is("BAD is named before FULL", x.player(0, 8), TonightCovers.BAD);
        Due.is("eight still", x.many(0), 8);
    }

    private static void ofOne() {
        TonightCovers x = Due.told("star of 6 ill 2; page of 4; cover of 1; second of 4 knows 90;", 4);
        int[][] want = {{5, 6, 2, 8}, {2, 4, 0, 8}, {1, 1, 0, 1}, {3, 4, 0, 0}};
        // the second one moves up: it is free for part 0, of no less WEIGHT than its own, and GOOD as 13 at it
        for (int player = 0; player < 4; player++) {
            for (int what = 0; what < 4; what++) {
                int due = player == 1 && what == 3 ? 4 : want[player][what];
                Due.is("of(" + player + ", " + what + ")", x.of(player, what), due);
            }
        }
        Due.is("of(4, 0)", x.of(4, 0), TonightCovers.BAD);
        Due.is("of(-1, 0)", x.of(-1, 0), TonightCovers.BAD);
        Due.is("of(0, 4)", x.of(0, 4), TonightCovers.BAD);
        Due.is("of(0, -1)", x.of(0, -1), TonightCovers.BAD);
    }

    private static void knowing() {
        TonightCovers x = Due.told("star of 6 knows 3;", 1);
        Due.is("its own", x.knows(0, 6), 3);
        Due.is("another", x.knows(0, 7), 0);
        Due.is("knows(1, 0)", x.knows(1, 0), TonightCovers.BAD);
        Due.is("knows(-1, 0)", x.knows(-1, 0), TonightCovers.BAD);
        Due.is("knows(0, 8)", x.knows(0, 8), TonightCovers.BAD);
        Due.is("knows(0, -1)", x.knows(0, -1), TonightCovers.BAD);
    }

    // one of each kind, its own part 2, knowing it 51 and part 5 as 31; HELP 4, BOOK 7
    private static void doing() {
        int[] goodAtOwn = {51, 51, 25, 51, 39, 56};
        int[] goodAtOther = {31, 35, 15, 45, 29, 0};
        int[] learns = {2, 6, 6, 5, 0, -1};
        int[] forgets = {1, 0, 2, 0, -5, 2};
        TonightCovers x = new TonightCovers();
        x.set(0, 4);
        x.set(1, 7);
        for (int kind = 0; kind < 6; kind++) {
            x.player(kind, 2);
            x.teach(kind, 2, 51);
            x.teach(kind, 5, 31);
            x.sick(kind, kind);
            Due.is("GOOD at its own, " + kind, x.does(kind, 2, 0), 1000 + goodAtOwn[kind]);
            Due.is("GOOD at another, " + kind, x.does(kind, 5, 0), 1000 + goodAtOther[kind]);
            for (int part = 0; part < 8; part++) {
                Due.is("LEARNS, " + kind, x.does(kind, part, 1), 1000 + learns[kind]);
                Due.is("FORGETS, " + kind, x.does(kind, part, 2), 1000 + forgets[kind]);
            }
            Due.is("does(.., 8, 1)", x.does(kind, 8, 1), TonightCovers.BAD);
            Due.is("does(.., -1, 2)", x.does(kind, -1, 2), TonightCovers.BAD);
            Due.is("does(.., 0, 3)", x.does(kind, 0, 3), TonightCovers.BAD);
            Due.is("does(.., 0, -1)", x.does(kind, 0, -1), TonightCovers.BAD);
        }
        Due.is("does(6, 0, 0)", x.does(6, 0, 0), TonightCovers.BAD);
        Due.is("does(-1, 0, 0)", x.does(-1, 0, 0), TonightCovers.BAD);
    }

    private static void minding() {
        TonightCovers x = Due.told("star of 6 knows 33 ill 5;", 1);
        Due.is("mind(0, 2)", x.mind(0, 2), 5);
        Due.is("KIND", x.of(0, 0), 2);
        Due.is("OWN stays", x.of(0, 1), 6);
        Due.is("ILL stays", x.of(0, 2), 5);
        Due.is("KNOWS stays", x.knows(0, 6), 33);
        Due.is("mind(0, 6)", x.mind(0, 6), TonightCovers.BAD);
        Due.is("mind(0, -1)", x.mind(0, -1), TonightCovers.BAD);
        Due.is("mind(1, 0)", x.mind(1, 0), TonightCovers.BAD);
        Due.is("mind(-1, 0)", x.mind(-1, 0), TonightCovers.BAD);
        Due.is("mind(0, 0)", x.mind(0, 0), 2);
    }

    private static void teaching() {
        TonightCovers x = Due.told("star of 6; star of 5;", 2);
        Due.is("teach(1, 7, 99)", x.teach(1, 7, 99), 0);
        Due.is("KNOWS", x.knows(1, 7), 99);
        Due.is("KNOWS of the other", x.knows(0, 7), 0);
        Due.is("teach(1, 7, 0)", x.teach(1, 7, 0), 99);
        Due.is("teach(1, 7, 100)", x.teach(1, 7, 100), TonightCovers.BAD);
        Due.is("teach(1, 7, -1)", x.teach(1, 7, -1), TonightCovers.BAD);
        Due.is("KNOWS stays", x.knows(1, 7), 0);
        Due.is("teach(2, 7, 0)", x.teach(2, 7, 0), TonightCovers.BAD);
        Due.is("teach(-1, 7, 0)", x.teach(-1, 7, 0), TonightCovers.BAD);
        Due.is("teach(0, 8, 0)", x.teach(0, 8, 0), TonightCovers.BAD);
        Due.is("teach(0, -1, 0)", x.teach(0, -1, 0), TonightCovers.BAD);
    }

    private static void illness() {
        TonightCovers x = Due.told("player of 6; player of 5;", 2);
        Due.is("sick(1, 9)", x.sick(1, 9), 0);
        Due.is("ILL", x.of(1, 2), 9);
        Due.is("those ILL", x.state(4), 2);
        Due.is("how many ILL", x.many(1), 1);
        Due.is("has no part", x.of(1, 3), 8);
        Due.is("sick(1, 10)", x.sick(1, 10), TonightCovers.BAD);
        Due.is("sick(1, -1)", x.sick(1, -1), TonightCovers.BAD);
        Due.is("sick(2, 0)", x.sick(2, 0), TonightCovers.BAD);
        Due.is("sick(-1, 0)", x.sick(-1, 0), TonightCovers.BAD);
        Due.is("sick(1, 0)", x.sick(1, 0), 9);
        Due.is("plays again", x.of(1, 3), 5);
    }
}
