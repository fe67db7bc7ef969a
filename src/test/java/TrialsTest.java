/** Promises 20 to 29: what is asked and tried, while nothing changes. */
final class TrialsTest {
    private TrialsTest() {
    }

    public static void main(String[] args) {
        knewAndEarned();
        plays();
        fullHouse();
        worst();
        kindFor();
        enoughFor();
        learnerFor();
        fewestFor();
        fits();
        fitsOfSeveral();
        fitsOfSorts();
        nothingChanges();
        Due.end();
    }

    private static void knewAndEarned() {
        TonightCovers x = Due.told("player of 3; player of 6 ill 2;", 2);
        x.teach(0, 5, 10);
        x.teach(1, 5, 9);
        Due.is("knew(0, 3, 0)", x.knew(0, 3, 0), 60);
        Due.is("knew(0, 3, 5)", x.knew(0, 3, 5), 70);
        Due.is("knew(0, 3, 60)", x.knew(0, 3, 60), 99);
        Due.is("knew(0, 5, 5)", x.knew(0, 5, 5), 5);
        Due.is("knew(0, 5, 60)", x.knew(0, 5, 60), 0);
        Due.is("knew(1, 5, 2)", x.knew(1, 5, 2), 9);
        Due.is("knew(1, 5, 3)", x.knew(1, 5, 3), 8);
        Due.is("knew(1, 6, 3)", x.knew(1, 6, 3), 62);
        Due.is("knew(2, 0, 0)", x.knew(2, 0, 0), TonightCovers.BAD);
        Due.is("knew(-1, 0, 0)", x.knew(-1, 0, 0), TonightCovers.BAD);
        Due.is("knew(0, 8, 0)", x.knew(0, 8, 0), TonightCovers.BAD);
        Due.is("knew(0, -1, 0)", x.knew(0, -1, 0), TonightCovers.BAD);
        Due.is("knew(0, 0, 61)", x.knew(0, 0, 61), TonightCovers.BAD);
        Due.is("knew(0, 0, -1)", x.knew(0, 0, -1), TonightCovers.BAD);
        Due.is("earned(0)", x.earned(0), 0);
        Due.is("earned(3)", x.earned(3), 3 * (60 + 62 + 64 + 60));
        Due.is("earned(60)", x.earned(60), 3 * (99 * 120 - 39 * 20 + 19 * 20 - 99 * 2 - 39 * 20 + 19 * 20));
        Due.is("earned(61)", x.earned(61), TonightCovers.BAD);
        Due.is("earned(-1)", x.earned(-1), TonightCovers.BAD);
        x.nights(2);
        Due.is("earned(0) later", x.earned(0), 3 * (60 + 62));
        Due.is("earned(1) later", x.earned(1), 3 * (60 + 62 + 64 + 60));
    }

    // What a prompter KNOWS of part 0 grows by 1 a NIGHT (BOOK 3): it is GOOD as 36 behind 60.
    private static void plays() {
        TonightCovers x = Due.told("prompter of 7; book 3; least 36;", 1);
        Due.is("plays its own at once", x.plays(0, 7), 0);
        Due.is("plays behind 60", x.plays(0, 0), 60);
        Due.is("plays another not by then", x.plays(0, 1), TonightCovers.NONE);
        x.set(2, 37);
        Due.is("plays not by then", x.plays(0, 0), TonightCovers.NONE);
        x.teach(0, 0, 1);
        Due.is("plays behind 61 is not by then", x.plays(0, 0), TonightCovers.NONE);
        x.set(2, 36);
        Due.is("plays behind 59", x.plays(0, 0), 59);
        x.teach(0, 0, 0);
        x.set(2, 10);
        x.sick(0, 9);
        // nothing FORGOTTEN while ILL; then GOOD as 10 behind 8 more
        Due.is("plays behind an illness", x.plays(0, 7), 9);
        Due.is("plays another behind an illness", x.plays(0, 0), 17);
        Due.is("plays(1, 0)", x.plays(1, 0), TonightCovers.BAD);
        Due.is("plays(-1, 0)", x.plays(-1, 0), TonightCovers.BAD);
        Due.is("plays(0, 8)", x.plays(0, 8), TonightCovers.BAD);
        Due.is("plays(0, -1)", x.plays(0, -1), TonightCovers.BAD);
    }

    private static void fullHouse() {
        TonightCovers x = Due.told("prompter of 7 knows 0; book 3; least 36;", 1);
        for (int i = 0; i < 7; i++) {
            x.player(0, i);
            x.teach(i + 1, i, 99);
        }
        Due.is("house() behind 60", x.house(), 60);
        x.set(2, 37);
        Due.is("house() not by then", x.house(), TonightCovers.NONE);
        x.set(2, 0);
        Due.is("house() at once", x.house(), 0);
        x.sick(4, 5);
        x.teach(0, 7, 99);
        Due.is("house() behind an illness", x.house(), 5);
        Due.is("house() of nobody", new TonightCovers().house(), TonightCovers.NONE);
    }

    private static void worst() {
        TonightCovers x = Due.told("player of 0; player of 1; player of 2 ill 1; player of 3; part 2 9;", 4);
        Due.is("of several the least", x.worst(), 0);
        x.weigh(3, 4);
        Due.is("the one of more WEIGHT", x.worst(), 3);
        x.sick(3, 1);
        x.sick(0, 1);
        Due.is("the one that is well", x.worst(), 1);
        x.weigh(1, 0);
        Due.is("SHOW is no less", x.worst(), TonightCovers.NONE);
        Due.is("nobody", new TonightCovers().worst(), TonightCovers.NONE);
        // the second one is there as good: its illness is no loss, and the first one's neither
        TonightCovers y = Due.told("player of 0; player of 0; player of 4 knows 11;", 3);
        Due.is("one without a second", y.worst(), 2);
        TonightCovers z = new TonightCovers();
        for (int i = 0; i < 8; i++) {
            z.player(0, i);
        }
        Due.is("of all eight the least", z.worst(), 0);
        z.weigh(7, 4);
        Due.is("of all eight the last", z.worst(), 7);
    }

    private static void kindFor() {
        TonightCovers x = Due.told("player of 3;", 1);
        // alone, from 60: star 65, 64, 63; cover 60, 65, 70; second leaves its own for part 0
        Due.is("kindFor(0, 1)", x.kindFor(0, 1), 5);
        Due.is("kindFor(0, 2)", x.kindFor(0, 2), 5);
        Due.is("kindFor(0, 3)", x.kindFor(0, 3), 1);
        Due.is("kindFor(0, 30)", x.kindFor(0, 30), 1);
        x.set(2, 99);
        Due.is("of several the least", x.kindFor(0, 1), 0);
        x.mind(0, 4);
        Due.is("also if it is another", x.kindFor(0, 1), 0);
        Due.is("kindFor(0, 0)", x.kindFor(0, 0), TonightCovers.BAD);
        Due.is("kindFor(0, 31)", x.kindFor(0, 31), TonightCovers.BAD);
        Due.is("kindFor(1, 1)", x.kindFor(1, 1), TonightCovers.BAD);
        Due.is("kindFor(-1, 1)", x.kindFor(-1, 1), TonightCovers.BAD);
    }

    private static void enoughFor() {
        TonightCovers x = Due.told("player of 3 knows 0; page of 3 knows 50;", 2);
        Due.is("more than the other is GOOD as", x.enoughFor(1, 3), 20);
        Due.is("with the least number, as much", x.enoughFor(0, 3), 25);
        x.teach(0, 3, 30);
        Due.is("with another number, more", x.enoughFor(1, 3), 62);
        Due.is("a part before its own", x.enoughFor(0, 1), 10);
        x.weigh(1, 2);
        Due.is("one of less WEIGHT", x.enoughFor(0, 1), TonightCovers.NONE);
        Due.is("one behind it, its own being played by itself", x.enoughFor(0, 5), TonightCovers.NONE);
        x.teach(1, 3, 99);
        Due.is("one behind it, its own being played", x.enoughFor(0, 5), 10);
        x.set(2, 0);
        Due.is("0 where LEAST is 0", x.enoughFor(0, 0), 0);
        x.sick(0, 1);
        Due.is("one that is ILL", x.enoughFor(0, 3), TonightCovers.NONE);
        Due.is("enoughFor(2, 0)", x.enoughFor(2, 0), TonightCovers.BAD);
        Due.is("enoughFor(-1, 0)", x.enoughFor(-1, 0), TonightCovers.BAD);
        Due.is("enoughFor(0, 8)", x.enoughFor(0, 8), TonightCovers.BAD);
        Due.is("enoughFor(0, -1)", x.enoughFor(0, -1), TonightCovers.BAD);
        TonightCovers y = Due.told("player of 3 knows 98; player of 3 knows 98;", 2);
        Due.is("99", y.enoughFor(1, 3), 99);
        y.teach(0, 3, 99);
        Due.is("with none", y.enoughFor(1, 3), TonightCovers.NONE);
    }

    private static void learnerFor() {
        TonightCovers x = Due.told("player of 0; player of 0 knows 50; page of 5; player of 7 ill 4;", 4);
        Due.is("of several the least", x.learnerFor(0, 1), 0);
        Due.is("another", x.learnerFor(5, 1), 1);
        Due.is("one ill tonight is of no use", x.learnerFor(7, 1), 1);
        x.teach(0, 0, 99);
        x.teach(1, 7, 99);
        Due.is("nobody makes it greater", x.learnerFor(0, 1), TonightCovers.NONE);
        Due.is("learnerFor(0, 0)", x.learnerFor(0, 0), TonightCovers.BAD);
        Due.is("learnerFor(0, 31)", x.learnerFor(0, 31), TonightCovers.BAD);
        Due.is("learnerFor(8, 1)", x.learnerFor(8, 1), TonightCovers.BAD);
        Due.is("learnerFor(-1, 1)", x.learnerFor(-1, 1), TonightCovers.BAD);
        TonightCovers y = Due.told("player of 3 ill 1; player of 3 ill 2;", 2);
        Due.is("both are ill", y.learnerFor(3, 1), TonightCovers.NONE);
        Due.is("the first one is well for the second NIGHT", y.learnerFor(3, 2), 0);
        Due.is("nobody is there", new TonightCovers().learnerFor(0, 30), TonightCovers.NONE);
        TonightCovers z = new TonightCovers();
        for (int i = 0; i < 8; i++) {
            z.player(i == 7 ? 0 : 5, i);
            z.teach(i, i, 99);
        }
        Due.is("of all eight, all at their best", z.learnerFor(3, 1), TonightCovers.NONE);
        z.teach(7, 7, 40);
        Due.is("of all eight the last", z.learnerFor(7, 1), 7);
    }

    private static void fewestFor() {
        TonightCovers x = Due.told("player of 0; player of 1; player of 2; part 1 5;", 3);
        int[][] want = {{0, 0}, {1, 1}, {180, 1}, {181, 2}, {300, 2}, {301, 3}, {480, 3}, {481, 7}, {660, 7},
            {661, TonightCovers.NONE}, {9999, TonightCovers.NONE}, {-1, TonightCovers.BAD}, {10000, TonightCovers.BAD}};
        for (int[] pair : want) {
            Due.is("fewestFor(" + pair[0] + ")", x.fewestFor(pair[0]), pair[1]);
        }
        x.sick(1, 5);
        Due.is("those that are well", x.fewestFor(301), 5);
        Due.is("the ill one does not count", x.fewestFor(361), TonightCovers.NONE);
        TonightCovers y = new TonightCovers();
        for (int i = 0; i < 8; i++) {
            y.player(0, i);
        }
        Due.is("all eight", y.fewestFor(8 * 180), 255);
        Due.is("any seven, the least", y.fewestFor(7 * 180), 127);
    }

    private static void fits() {
        TonightCovers x = Due.told("player of 0;", 1);
        Due.is("no SHEET there", x.fits(0, 0, 0), -11);
        x.sheet(0, 2, 0);
        Due.is("an empty one", x.fits(0, 0, 0), 100);
        x.sheet(0, 2, 2);
        Due.is("nothing taken, by those below LEAST", x.fits(0, 0, 0), 10);
        Due.is("the least of them", x.fits(0, 0, 1), 0);
        x.put(0, 0, 180);
        x.put(0, 1, 186);
        Due.is("just one", x.fits(0, 0, 0), 1);
        Due.is("60", x.fits(0, 0, 1), 60);
        x.put(0, 1, 187);
        Due.is("none", x.fits(0, 0, 0), 0);
        Due.is("none is the least", x.fits(0, 0, 1), TonightCovers.NONE);
        x.put(0, 0, -1);
        x.put(0, 1, 297);
        Due.is("held to 99 on the second NIGHT", x.fits(0, 0, 0), 3);
        Due.is("from 97 on", x.fits(0, 0, 1), 97);
        x.put(0, 0, 297);
        Due.is("99 on the first NIGHT", x.fits(0, 0, 0), 1);
        Due.is("99", x.fits(0, 0, 1), 99);
        x.put(0, 0, -1);
        x.put(0, 1, -1);
        Due.is("any", x.fits(0, 0, 0), 100);
        Due.is("any from 0 on", x.fits(0, 0, 1), 0);
        Due.is("fits(4, 0, 0)", x.fits(4, 0, 0), TonightCovers.BAD);
        Due.is("fits(-1, 0, 0)", x.fits(-1, 0, 0), TonightCovers.BAD);
        Due.is("fits(0, 1, 0)", x.fits(0, 1, 0), TonightCovers.BAD);
        Due.is("fits(0, -1, 0)", x.fits(0, -1, 0), TonightCovers.BAD);
        Due.is("fits(0, 0, 2)", x.fits(0, 0, 2), TonightCovers.BAD);
        Due.is("fits(0, 0, -1)", x.fits(0, 0, -1), TonightCovers.BAD);
        Due.is("BAD is named before -11", x.fits(1, 0, 2), TonightCovers.BAD);
    }

    // each number is tried from how all is now: one is ill for a NIGHT, another LEARNS
    private static void fitsOfSeveral() {
        TonightCovers x = Due.told("player of 0 ill 1;player of 1;", 2);
        x.sheet(3, 3, 2);
        x.put(3, 0, 180);
        x.put(3, 1, 186 + 210);
        Due.is("just one", x.fits(3, 0, 0), 1);
        Due.is("70", x.fits(3, 0, 1), 70);
    }

    private static void fitsOfSorts() {
        TonightCovers x = Due.told("player of 0; part 0 1;", 1);
        for (int sort = 0; sort < 4; sort++) {
            x.sheet(sort, sort, 40);
            for (int i = 0; i < 40; i++) {
                x.put(sort, i, i < 20 ? 60 + 2 * i : -1);
            }
            Due.is("forty numbers of sort " + sort, x.fits(sort, 0, 1), 60);
            x.put(sort, 39, 99);
            Due.is("and the last told of sort " + sort, x.fits(sort, 0, 0), 1);
            x.put(sort, 39, 98);
            Due.is("and another told last of sort " + sort, x.fits(sort, 0, 0), 0);
        }
    }

    private static void nothingChanges() {
        TonightCovers x = Due.told("player of 0 ill 2; cover of 1; second of 2; prompter of 4; throat 99;", 4);
        x.seed(9);
        x.sheet(0, 2, 3);
        x.knew(0, 0, 60);
        x.earned(60);
        x.plays(0, 7);
        x.house();
        x.worst();
        x.kindFor(1, 30);
        x.enoughFor(2, 2);
        x.learnerFor(1, 30);
        x.fewestFor(9999);
        x.fits(0, 1, 0);
        x.spoilt(30);
        x.prove(1, 10);
        x.judge(1);
        Due.is("NIGHT", x.state(0), 0);
        Due.is("TAKINGS", x.state(1), 0);
        Due.is("those ILL", x.state(4), 1);
        Due.is("ILL", x.of(0, 2), 2);
        for (int i = 0; i < 4; i++) {
            int[] kinds = {0, 1, 3, 4};
            int[] owns = {0, 1, 2, 4};
            Due.is("KIND of " + i, x.of(i, 0), kinds[i]);
            for (int part = 0; part < 8; part++) {
                Due.is("KNOWS of " + i, x.knows(i, part), part == owns[i] ? 60 : 0);
            }
        }
        Due.is("z", x.seed(9), 9);
    }
}
