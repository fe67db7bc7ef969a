/** Section 2 of the document, what is TRIED, but THE TAPE: each sentence that names a boundary, before its test. */
final class EdgesOfTrialsTest {
    private EdgesOfTrialsTest() {
    }

    public static void main(String[] args) {
        roleOfNone();
        behindNoNights();
        takenNotHeld();
        playsBehind60();
        fullBehind60();
        worstOfTheWell();
        worstLessThanAsItIs();
        worstOfSeveral();
        kindOfSeveral();
        enoughFrom0To99();
        learnerGreaterThanAsItIs();
        learnerOfSeveral();
        fewestOfNone();
        fewestOfTheWell();
        fewestAsMuch();
        movedByNone();
        fitsFrom0To99();
        fitsByAny();
        oddsAtTheEnds();
        hopeAtTheEnds();
        drawsWrap();
        drawsWithoutPlayers();
        belowThroat();
        asItWas();
        spoiltByLess();
        spoiltFromNow();
        Due.end();
    }

    private static TonightCovers players(int... owns) {
        TonightCovers x = new TonightCovers();
        for (int own : owns) {
            x.player(0, own);
        }
        return x;
    }

    // "ROLE of one: its part in THE BILL of now (8: none)"
    private static void roleOfNone() {
        TonightCovers x = players(0, 7, 7);
        Due.is("ROLE of the first part", x.of(0, 3), 0);
        Due.is("ROLE of the last part", x.of(1, 3), 7);
        Due.is("ROLE of one too many", x.of(2, 3), 8);
        x.sick(0, 1);
        Due.is("ROLE of one ILL", x.of(0, 3), 8);
    }

    // "KNEW of one and a part by n: KNOWS of that behind n NIGHTS. TAKEN by n: TAKINGS behind n NIGHTS": none, and 60
    private static void behindNoNights() {
        TonightCovers x = players(0);
        x.nights(1);
        Due.is("KNEW by 0", x.knew(0, 0, 0), 62);
        Due.is("KNEW by 1", x.knew(0, 0, 1), 64);
        Due.is("KNEW by 60", x.knew(0, 0, 60), 99);
        Due.is("TAKEN by 0", x.earned(0), 180);
        Due.is("TAKEN by 1", x.earned(1), 366);
        TonightCovers y = Due.told("prompter of 7; book 3; least 36;", 1);
        Due.is("1 a NIGHT, behind 59", y.knew(0, 0, 59), 59);
        Due.is("1 a NIGHT, behind 60", y.knew(0, 0, 60), 60);
        Due.is("36 * 3 a NIGHT, behind 60", y.earned(60), 60 * 36 * 3);
    }

    // "TAKINGS behind n NIGHTS (were they not held)"
    private static void takenNotHeld() {
        TonightCovers x = players(0, 1, 2, 3, 4, 5, 6, 7);
        for (int i = 0; i < 8; i++) {
            x.teach(i, i, 99);
            x.weigh(i, 9);
        }
        x.nights(60);
        x.nights(60);
        x.nights(20);
        Due.is("TAKEN by 1", x.earned(1), 997920 + 7128);
        Due.is("TAKEN by 60", x.earned(60), 997920 + 60 * 7128);
        x.nights(1);
        Due.is("TAKINGS, held", x.state(1), 999999);
        Due.is("TAKEN by 0", x.earned(0), 999999);
        Due.is("TAKEN by 2", x.earned(2), 999999 + 2 * 7128);
        // a KIND, or a learner, is told by what would be TAKEN, also where TAKINGS hold
        x.teach(3, 3, 50);
        Due.is("KIND FOR", x.kindFor(3, 1), 5);
        Due.is("LEARNER FOR", x.learnerFor(3, 1), 3);
    }

    // "PLAYS of one and a part: behind the fewest NIGHTS (0 to 60) it is on THE BILL with that first": from LEAST on
    private static void playsBehind60() {
        TonightCovers x = Due.told("prompter of 7; book 3;", 1);
        Due.is("behind 0", x.plays(0, 7), 0);
        // GOOD at part 0 behind n NIGHTS: n / 2, and 6
        int[][] want = {{36, 60}, {35, 58}, {7, 2}, {37, TonightCovers.NONE}, {99, TonightCovers.NONE}};
        for (int[] pair : want) {
            x.set(2, pair[0]);
            x.teach(0, 7, 99);
            Due.is("plays at LEAST " + pair[0], x.plays(0, 0), pair[1]);
        }
        x.set(2, 37);
        x.teach(0, 0, 2);
        Due.is("behind 60", x.plays(0, 0), 60);
        x.teach(0, 0, 1);
        Due.is("not behind 61", x.plays(0, 0), TonightCovers.NONE);
    }

    // "FULL HOUSE: behind the fewest (0 to 60) nothing is CUT first": part 7 is, until the prompter is GOOD
    private static void fullBehind60() {
        TonightCovers x = Due.told("prompter of 7 knows 0; book 3; least 36;", 1);
        for (int i = 0; i < 7; i++) {
            x.player(0, i);
            x.teach(i + 1, i, 99);
        }
        Due.is("behind 60", x.house(), 60);
        x.set(2, 37);
        Due.is("not behind 62", x.house(), TonightCovers.NONE);
        x.teach(0, 7, 1);
        Due.is("not behind 61", x.house(), TonightCovers.NONE);
        x.teach(0, 7, 2);
        Due.is("behind 60, of more", x.house(), 60);
        x.teach(0, 7, 62);
        Due.is("behind 0", x.house(), 0);
        Due.is("of nobody", new TonightCovers().house(), TonightCovers.NONE);
        Due.is("of one", players(0).house(), TonightCovers.NONE);
    }

    // "WORST: the one that is well"
    private static void worstOfTheWell() {
        TonightCovers x = players(0, 1);
        x.sick(0, 1);
        Due.is("the well one", x.worst(), 1);
        x.sick(1, 9);
        Due.is("all ILL", x.worst(), TonightCovers.NONE);
        Due.is("nobody there", new TonightCovers().worst(), TonightCovers.NONE);
    }

    // "makes SHOW of THE BILL of now least, less than as it is"
    private static void worstLessThanAsItIs() {
        TonightCovers x = players(0, 0);
        Due.is("as much without it", x.worst(), TonightCovers.NONE);
        x.teach(0, 0, 61);
        Due.is("3 less without it", x.worst(), 0);
        x.weigh(0, 0);
        Due.is("nothing less without it", x.worst(), TonightCovers.NONE);
    }

    // "of several the least" (WORST)
    private static void worstOfSeveral() {
        TonightCovers x = players(3, 4, 5, 6);
        x.weigh(4, 4);
        x.weigh(6, 4);
        Due.is("two as bad", x.worst(), 1);
        x.teach(3, 6, 61);
        Due.is("the last one worse", x.worst(), 3);
    }

    // "KIND FOR one, n: the KIND as one of which TAKEN by n is greatest; of several the least"
    private static void kindOfSeveral() {
        TonightCovers x = players(0);
        Due.is("the last KIND", x.kindFor(0, 1), 5);
        x.sick(0, 9);
        Due.is("nothing TAKEN as any", x.kindFor(0, 9), 0);
        x.mind(0, 5);
        Due.is("nothing TAKEN as any, of another KIND", x.kindFor(0, 9), 0);
        x.sick(0, 0);
        x.teach(0, 0, 0);
        x.set(1, 5);
        Due.is("a prompter alone is GOOD as LEAST", x.kindFor(0, 1), 4);
        x.set(1, 4);
        Due.is("GOOD as LEAST as none", x.kindFor(0, 1), 0);
    }

    // "ENOUGH FOR one, a part: the least that it KNOWS of it now (0 to 99) with which it is on THE BILL of now"
    private static void enoughFrom0To99() {
        TonightCovers x = players(0);
        x.set(2, 99);
        Due.is("99", x.enoughFor(0, 0), 99);
        x.set(2, 1);
        Due.is("1", x.enoughFor(0, 0), 1);
        x.set(2, 0);
        Due.is("0", x.enoughFor(0, 0), 0);
        x.player(0, 0);
        x.teach(0, 0, 99);
        Due.is("with none: not more than 99", x.enoughFor(1, 0), TonightCovers.NONE);
        Due.is("as much, of the least number", x.enoughFor(0, 0), 60);
        x.mind(1, 5);
        Due.is("5 less, as a star", x.enoughFor(1, 0), 95);
        x.sick(1, 1);
        Due.is("with none, ILL", x.enoughFor(1, 0), TonightCovers.NONE);
    }

    // "LEARNER FOR a part, n: the one which, KNOWING it 99 now, makes TAKEN by n greatest, greater than as it is"
    private static void learnerGreaterThanAsItIs() {
        TonightCovers x = players(0);
        x.teach(0, 0, 99);
        Due.is("KNOWS it 99 already", x.learnerFor(0, 1), TonightCovers.NONE);
        x.teach(0, 0, 98);
        Due.is("1 more for a NIGHT", x.learnerFor(0, 1), 0);
        x.weigh(0, 0);
        Due.is("1 more of no WEIGHT", x.learnerFor(0, 30), TonightCovers.NONE);
        Due.is("nobody there", new TonightCovers().learnerFor(0, 1), TonightCovers.NONE);
    }

    // "of several the least" (LEARNER FOR)
    private static void learnerOfSeveral() {
        TonightCovers x = players(5, 5, 5);
        Due.is("three as well", x.learnerFor(5, 1), 0);
        x.sick(0, 1);
        Due.is("the two that are well", x.learnerFor(5, 1), 1);
        Due.is("all well on the second NIGHT, two do it twice", x.learnerFor(5, 2), 1);
        x.mind(2, 5);
        Due.is("the last one better", x.learnerFor(5, 1), 2);
        TonightCovers y = players(5);
        y.sick(0, 1);
        Due.is("ILL for the only NIGHT", y.learnerFor(5, 1), TonightCovers.NONE);
        Due.is("ILL for the first one of two", y.learnerFor(5, 2), 0);
    }

    // "FEWEST FOR v: the set of fewest": also of none
    private static void fewestOfNone() {
        TonightCovers x = new TonightCovers();
        Due.is("nobody, for 0", x.fewestFor(0), 0);
        Due.is("nobody, for 1", x.fewestFor(1), TonightCovers.NONE);
        x.player(0, 0);
        Due.is("one, for 0", x.fewestFor(0), 0);
        Due.is("one, for 1", x.fewestFor(1), 1);
        x.sick(0, 1);
        Due.is("one ILL, for 0", x.fewestFor(0), 0);
        Due.is("one ILL, for 1", x.fewestFor(1), TonightCovers.NONE);
    }

    // "that are well such that, were all others ILL (1) now"
    private static void fewestOfTheWell() {
        TonightCovers x = players(0, 0, 1);
        x.sick(0, 1);
        Due.is("not the ILL one", x.fewestFor(180), 2);
        Due.is("both others", x.fewestFor(360), 6);
        x.sick(0, 0);
        Due.is("of several the least", x.fewestFor(180), 1);
        Due.is("of several the least, of two", x.fewestFor(360), 5);
    }

    // "SHOW of THE BILL of now is v or more"
    private static void fewestAsMuch() {
        TonightCovers x = players(0, 1);
        x.weigh(1, 4);
        int[][] want = {{180, 1}, {181, 2}, {240, 2}, {241, 3}, {420, 3}, {421, TonightCovers.NONE},
            {9999, TonightCovers.NONE}};
        for (int[] pair : want) {
            Due.is("fewestFor(" + pair[0] + ")", x.fewestFor(pair[0]), pair[1]);
        }
        TonightCovers y = players(0, 1, 2, 3, 4, 5, 6, 7);
        Due.is("all eight", y.fewestFor(1440), 255);
        Due.is("1 more than all eight", y.fewestFor(1441), TonightCovers.NONE);
        Due.is("seven", y.fewestFor(1260), 127);
    }

    // "MOVED: how many are on THE BILL of now with a part that isn't their OWN"
    private static void movedByNone() {
        Due.is("nobody", new TonightCovers().state(5), 0);
        TonightCovers x = players(1, 2, 3, 4, 5, 6, 7, 7);
        x.sick(7, 1);
        Due.is("all with their OWN, one with none", x.state(5), 0);
        for (int i = 0; i < 8; i++) {
            x.sick(i, 0);
            x.teach(i, i, 99);
        }
        Due.is("each but the last one", x.state(5), 7);
    }

    // "FITS of one by a SHEET: those numbers (0 to 99) that might be what it KNOWS of its OWN part now"
    private static void fitsFrom0To99() {
        TonightCovers x = players(0);
        x.set(2, 0);
        x.sheet(0, 2, 1);
        for (int v : new int[] {0, 1, 98, 99}) {
            x.put(0, 0, 3 * v);
            Due.is("how many for " + v, x.fits(0, 0, 0), 1);
            Due.is("the least for " + v, x.fits(0, 0, 1), v);
        }
        for (int v : new int[] {-3, 300, 1, Integer.MIN_VALUE}) {
            x.put(0, 0, v);
            Due.is("none for SHOW " + v, x.fits(0, 0, 0), 0);
            Due.is("no least for SHOW " + v, x.fits(0, 0, 1), TonightCovers.NONE);
        }
    }

    // "what the numbers of the SHEET tell (-1: any)": also by a SHEET of none, or a byte that became -1
    private static void fitsByAny() {
        TonightCovers x = players(0);
        x.sheet(0, 0, 0);
        Due.is("of no numbers", x.fits(0, 0, 0), 100);
        Due.is("of no numbers, the least", x.fits(0, 0, 1), 0);
        x.sheet(0, 0, 40);
        for (int i = 0; i < 40; i++) {
            x.put(0, i, 255);
        }
        Due.is("of any", x.fits(0, 0, 0), 100);
        x.weigh(0, 1);
        x.put(0, 0, 60);
        Due.is("the first one told", x.fits(0, 0, 1), 60);
        Due.is("the first one told, alone", x.fits(0, 0, 0), 1);
        x.put(0, 0, 255);
        x.put(0, 39, 60 - 1);
        Due.is("the last one told", x.fits(0, 0, 0), 0);
        x.put(0, 39, 0);
        Due.is("0 told, by those below LEAST", x.fits(0, 0, 0), 10);
        x.put(0, 39, 99);
        Due.is("99 told, by those that come as far, held", x.fits(0, 0, 0), 79);
        Due.is("99 told, the least", x.fits(0, 0, 1), 99 - 2 * 39);
    }

    // "ODDS by n, k: that of n players just k have a throat"; "(0 is 0 by 1)"
    private static void oddsAtTheEnds() {
        TonightCovers x = new TonightCovers();
        Due.is("0 of 0", x.odds(0, 0, 0), 1);
        Due.is("0 of 0, below", x.odds(0, 0, 1), 1);
        Due.is("8 of 8", x.odds(8, 8, 0), 1);
        Due.is("8 of 8, below", x.odds(8, 8, 1), 390625);
        Due.is("0 of 8", x.odds(8, 0, 0), 65536);
        x.set(3, 0);
        for (int n = 0; n <= 8; n++) {
            Due.is("none of " + n + " for sure", x.odds(n, 0, 0), 1);
            Due.is("none of " + n + " for sure, below", x.odds(n, 0, 1), 1);
            for (int k = 1; k <= n; k++) {
                Due.is(k + " of " + n + " never", x.odds(n, k, 0), 0);
                Due.is(k + " of " + n + " never, by 1", x.odds(n, k, 1), 1);
            }
        }
        x.set(3, 99);
        Due.is("70 * 99^4, cut by 10", x.odds(8, 4, 0), 7L * 96059601);
        Due.is("100^8, cut by 10", x.odds(8, 4, 1), 1000000000000000L);
        Due.is("the greatest above", x.odds(8, 8, 0), 9227446944279201L);
        Due.is("the greatest below", x.odds(8, 8, 1), 10000000000000000L);
    }

    // "HOPE by n: how many have on average"; "0 above the line, 1 below it, .. (0 is 0 by 1)"
    private static void hopeAtTheEnds() {
        TonightCovers x = new TonightCovers();
        int[][] want = {{20, 0, 0, 1}, {20, 1, 1, 5}, {20, 99, 99, 5}, {0, 0, 0, 1}, {0, 99, 0, 1}, {99, 99, 9801, 100},
            {99, 1, 99, 100}};
        for (int[] row : want) {
            x.set(3, row[0]);
            Due.is("hope(" + row[1] + ", 0)", x.hope(row[1], 0), row[2]);
            Due.is("hope(" + row[1] + ", 1)", x.hope(row[1], 1), row[3]);
        }
    }

    private static int next(int z) {
        return (int) ((z * 1103515245L + 12345L) & 0xffffffffL);
    }

    private static int drawn(int z) {
        return (int) ((z & 0xffffffffL) / 65536);
    }

    // "DRAWS: z (an int; 1 at first) becomes z * 1103515245 + 12345; z >>> 16 is drawn": wraps, and is never below 0
    private static void drawsWrap() {
        Due.is("1 at first", new TonightCovers().seed(0), 1);
        for (int z : new int[] {Integer.MAX_VALUE, Integer.MIN_VALUE, -1, 0, 1, 1 << 16, 715827883}) {
            TonightCovers x = players(0, 1, 2, 3, 4, 5, 6);
            x.set(3, 99);
            x.seed(z);
            x.night();
            int who = drawn(next(z)) % 7;
            boolean has = drawn(next(next(z))) % 100 < 99;
            int ill = has ? drawn(next(next(next(z)))) % 10 : 0;
            Due.is("ILL by z " + z, x.of(who, 2), Math.max(0, ill - 1));
            Due.is("z behind " + z, x.seed(0), has ? next(next(next(z))) : next(next(z)));
        }
    }

    // "A NIGHT BY DRAWS: if there are PLAYERS, a draw"
    private static void drawsWithoutPlayers() {
        TonightCovers x = new TonightCovers();
        Due.is("night() of nobody", x.night(), 0);
        Due.is("spoilt(30) of nobody", x.spoilt(30), 0);
        Due.is("z", x.seed(1), 1);
        Due.is("NIGHT", x.state(0), 1);
    }

    // the first z from which the second draw leaves throat by 100, and the third one ill by 10
    private static int seedFor(int throat, int ill) {
        for (int z = 0; z < 100000; z++) {
            int second = next(next(z));
            if (drawn(second) % 100 == throat && drawn(next(second)) % 10 == ill) {
                return z;
            }
        }
        Due.is("there is a z for " + throat + ", " + ill, 0, 1);
        return 0;
    }

    // "if what that leaves by 100 is below THROAT"
    private static void belowThroat() {
        int[][] want = {{0, 0, 0}, {0, 1, 8}, {20, 20, 0}, {20, 21, 8}, {98, 98, 0}, {98, 99, 8}, {99, 99, 0}};
        for (int[] row : want) {
            TonightCovers x = players(0);
            x.seed(seedFor(row[0], 9));
            x.set(3, row[1]);
            String told = row[0] + " by THROAT " + row[1];
            Due.is("night(), " + told, x.night(), row[2] > 0 ? 0 : 180);
            Due.is("ILL, " + told, x.of(0, 2), row[2]);
            int z = seedFor(row[0], 9);
            int draws = row[2] > 0 ? next(next(next(z))) : next(next(z));
            Due.is("z, " + told, x.seed(0), draws);
        }
    }

    // "ILL for as many NIGHTS as a third draw leaves by 10, or as it was, whichever is more"
    private static void asItWas() {
        int[][] want = {{0, 0, 0}, {1, 0, 0}, {9, 0, 8}, {0, 1, 0}, {0, 5, 4}, {3, 4, 3}, {4, 4, 3}, {5, 4, 4},
            {9, 9, 8}};
        for (int[] row : want) {
            TonightCovers x = players(0);
            x.set(3, 50);
            x.sick(0, row[1]);
            x.seed(seedFor(0, row[0]));
            Due.is("SHOW", x.night(), row[0] + row[1] > 0 ? 0 : 180);
            Due.is("ILL " + row[1] + ", drawn " + row[0], x.of(0, 2), row[2]);
        }
    }

    // "SPOILT: in how many .. SHOW is less than that of a NIGHT"
    private static void spoiltByLess() {
        TonightCovers x = players(0, 0);
        x.set(3, 50);
        for (int z = 0; z < 20; z++) {
            x.seed(z);
            Due.is("SHOW as much by the other one", x.spoilt(30), 0);
        }
        TonightCovers y = players(0);
        y.set(3, 50);
        y.seed(seedFor(0, 0));
        Due.is("ILL for no NIGHTS", y.spoilt(1), 0);
        y.seed(seedFor(0, 1));
        Due.is("ILL for one NIGHT", y.spoilt(1), 1);
        y.sick(0, 1);
        Due.is("one that was ILL before", y.spoilt(1), 0);
    }

    // "each tried from how all is now (z alone goes on) .. (nothing changes, z neither)"
    private static void spoiltFromNow() {
        TonightCovers x = players(0, 1, 2);
        x.set(3, 30);
        x.seed(77);
        int z = 77;
        int count = 0;
        for (int n = 1; n <= 30; n++) {
            z = next(next(z));
            if (drawn(z) % 100 < 30) {
                z = next(z);
                count += drawn(z) % 10 > 0 ? 1 : 0;
            }
            Due.is("spoilt(" + n + ")", x.spoilt(n), count);
        }
        Due.is("z", x.seed(0), 77);
        Due.is("those ILL", x.state(4), 0);
    }
}
