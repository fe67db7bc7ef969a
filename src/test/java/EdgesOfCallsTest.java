/** Each number of each call: taken at its ends, refused beyond them; and which of several refusals is named. */
final class EdgesOfCallsTest {
    interface Call {
        long on(TonightCovers x, int v);
    }

    private EdgesOfCallsTest() {
    }

    public static void main(String[] args) {
        tellingIt();
        itsNights();
        asking();
        fractions();
        rowsAndSheets();
        shelvesAndCounts();
        nothingIsBadHere();
        fullBehindBad();
        noneBehindBad();
        hostBehindBad();
        Due.end();
    }

    // three PLAYERS, the last one ILL; SHEET 0 has five bytes, SHELF 0 the first one, THE TAPE ten bytes; two ROWS
    private static TonightCovers some() {
        TonightCovers x = Due.told("player of 0;cover of 1;page of 7 ill 3;", 3);
        x.sheet(0, 0, 5);
        x.shelf(0, 0, 0);
        x.prove(0, 2);
        Due.feed(x, "0123456789");
        return x;
    }

    // "BAD (-1) there is no such thing, or a number is not as told": another answer within, BAD outside
    private static void range(String call, int least, int most, Call made) {
        range(call, least, most, TonightCovers.BAD, made);
    }

    private static void range(String call, int least, int most, int refusal, Call made) {
        for (int v : new int[] {least, most}) {
            Due.is(call + " by " + v + " is refused", made.on(some(), v) == refusal ? 1 : 0, 0);
        }
        for (int v : new int[] {least - 1, most + 1, Integer.MIN_VALUE, Integer.MAX_VALUE}) {
            Due.is(call + " by " + v, made.on(some(), v), refusal);
        }
    }

    // promises 2 and 4 to 14
    private static void tellingIt() {
        range("feed(0, v)", 1, 8, (x, v) -> x.feed(0, v));
        range("set(v, 9)", 0, 3, (x, v) -> x.set(v, 9));
        range("set(0, v)", 0, 9, (x, v) -> x.set(0, v));
        range("set(1, v)", 0, 9, (x, v) -> x.set(1, v));
        range("set(2, v)", 0, 99, (x, v) -> x.set(2, v));
        range("set(3, v)", 0, 99, (x, v) -> x.set(3, v));
        range("lawOf(v)", 0, 3, (x, v) -> x.lawOf(v));
        range("weigh(v, 1)", 0, 7, (x, v) -> x.weigh(v, 1));
        range("weigh(0, v)", 0, 9, (x, v) -> x.weigh(0, v));
        for (int what = 0; what < 3; what++) {
            int w = what;
            range("partOf(v, " + w + ")", 0, 7, (x, v) -> x.partOf(v, w));
            range("does(v, 0, " + w + ")", 0, 2, (x, v) -> x.does(v, 0, w));
            range("does(0, v, " + w + ")", 0, 7, (x, v) -> x.does(0, v, w));
        }
        range("partOf(0, v)", 0, 2, (x, v) -> x.partOf(0, v));
        range("player(v, 0)", 0, 5, (x, v) -> x.player(v, 0));
        range("player(0, v)", 0, 7, (x, v) -> x.player(0, v));
        for (int what = 0; what < 4; what++) {
            int w = what;
            range("of(v, " + w + ")", 0, 2, (x, v) -> x.of(v, w));
        }
        range("of(0, v)", 0, 3, (x, v) -> x.of(0, v));
        range("knows(v, 0)", 0, 2, (x, v) -> x.knows(v, 0));
        range("knows(0, v)", 0, 7, (x, v) -> x.knows(0, v));
        range("does(0, 0, v)", 0, 2, (x, v) -> x.does(0, 0, v));
        range("mind(v, 0)", 0, 2, (x, v) -> x.mind(v, 0));
        range("mind(0, v)", 0, 5, (x, v) -> x.mind(0, v));
        range("teach(v, 0, 0)", 0, 2, (x, v) -> x.teach(v, 0, 0));
        range("teach(0, v, 0)", 0, 7, (x, v) -> x.teach(0, v, 0));
        range("teach(0, 0, v)", 0, 99, (x, v) -> x.teach(0, 0, v));
        range("sick(v, 0)", 0, 2, (x, v) -> x.sick(v, 0));
        range("sick(0, v)", 0, 9, (x, v) -> x.sick(0, v));
    }

    // promises 15 to 19
    private static void itsNights() {
        range("nights(v)", 1, 60, (x, v) -> x.nights(v));
        range("spoilt(v)", 1, 30, (x, v) -> x.spoilt(v));
        range("state(v)", 0, 5, (x, v) -> x.state(v));
    }

    // promises 20 to 29
    private static void asking() {
        range("knew(v, 0, 0)", 0, 2, (x, v) -> x.knew(v, 0, 0));
        range("knew(0, v, 0)", 0, 7, (x, v) -> x.knew(0, v, 0));
        range("knew(0, 0, v)", 0, 60, (x, v) -> x.knew(0, 0, v));
        range("earned(v)", 0, 60, (x, v) -> x.earned(v));
        range("plays(v, 0)", 0, 2, (x, v) -> x.plays(v, 0));
        range("plays(0, v)", 0, 7, (x, v) -> x.plays(0, v));
        range("kindFor(v, 1)", 0, 2, (x, v) -> x.kindFor(v, 1));
        range("kindFor(0, v)", 1, 30, (x, v) -> x.kindFor(0, v));
        range("enoughFor(v, 0)", 0, 2, (x, v) -> x.enoughFor(v, 0));
        range("enoughFor(0, v)", 0, 7, (x, v) -> x.enoughFor(0, v));
        range("learnerFor(v, 5)", 0, 7, (x, v) -> x.learnerFor(v, 5));
        range("learnerFor(0, v)", 1, 30, (x, v) -> x.learnerFor(0, v));
        range("fewestFor(v)", 0, 9999, (x, v) -> x.fewestFor(v));
        range("fits(v, 0, 0)", 0, 3, (x, v) -> x.fits(v, 0, 0));
        range("fits(0, v, 0)", 0, 2, (x, v) -> x.fits(0, v, 0));
        range("fits(0, 0, v)", 0, 1, (x, v) -> x.fits(0, 0, v));
    }

    // promises 30 and 31
    private static void fractions() {
        range("odds(v, 0, 0)", 0, 8, (x, v) -> x.odds(v, 0, 0));
        for (int n = 0; n <= 8; n++) {
            int all = n;
            range("odds(" + all + ", v, 0)", 0, all, (x, v) -> x.odds(all, v, 0));
        }
        range("odds(8, 4, v)", 0, 1, (x, v) -> x.odds(8, 4, v));
        range("hope(v, 1)", 0, 99, (x, v) -> x.hope(v, 1));
        range("hope(99, v)", 0, 1, (x, v) -> x.hope(99, v));
    }

    // promises 32 to 39
    private static void rowsAndSheets() {
        range("prove(v, 1)", 0, 2, (x, v) -> x.prove(v, 1));
        range("prove(0, v)", 1, 10, (x, v) -> x.prove(0, v));
        range("row(v, 0)", 0, 1, -9, (x, v) -> x.row(v, 0));
        range("row(0, v)", 0, 2, -9, (x, v) -> x.row(0, v));
        range("alterRow(v, 0, 5)", 0, 1, -9, (x, v) -> x.alterRow(v, 0, 5));
        range("alterRow(0, v, 5)", 0, 2, -9, (x, v) -> x.alterRow(0, v, 5));
        range("judge(v)", 0, 2, (x, v) -> x.judge(v));
        range("minds(0, v, 0, 0)", 0, 5, -12, (x, v) -> x.minds(0, v, 0, 0));
        range("minds(0, v, 0, 2)", 0, 3, -12, (x, v) -> x.minds(0, v, 0, 2));
        range("minds(0, 0, v, 0)", 0, 2, (x, v) -> x.minds(0, 0, v, 0));
        range("minds(0, 0, v, 2)", 0, 1, (x, v) -> x.minds(0, 0, v, 2));
        range("minds(0, 0, 0, v)", 0, 3, (x, v) -> x.minds(0, 0, 0, v));
        range("sheet(v, 0, 0)", 0, 3, (x, v) -> x.sheet(v, 0, 0));
        range("sheet(0, v, 0)", -1, 3, (x, v) -> x.sheet(0, v, 0));
        range("sheet(v, -1, 0)", 0, 3, (x, v) -> x.sheet(v, -1, 0));
        // below 0 it is the host that refuses
        range("sheet(0, 0, v)", 0, 40, (x, v) -> v < 0 ? x.sheet(0, 0, v) + 13 : x.sheet(0, 0, v));
        range("put(v, 0, 0)", 0, 3, (x, v) -> x.put(v, 0, 0));
        range("put(0, v, 0)", 0, 4, -12, (x, v) -> x.put(0, v, 0));
        range("item(v, 0, 0)", 0, 3, (x, v) -> x.item(v, 0, 0));
        range("item(0, v, 0)", 0, 3, (x, v) -> x.item(0, v, 0));
        range("item(1, v, 0)", 0, 3, (x, v) -> x.item(1, v, 0));
        range("item(0, 0, v)", 0, 4, -12, (x, v) -> x.item(0, 0, v));
    }

    // promises 40 to 44
    private static void shelvesAndCounts() {
        range("shelf(v, 0, 0)", 0, 3, (x, v) -> x.shelf(v, 0, 0));
        range("shelf(v, 1, 0)", 0, 3, (x, v) -> x.shelf(v, 1, 0));
        range("shelf(v, 2, 0)", 0, 3, (x, v) -> x.shelf(v, 2, 0));
        range("shelf(0, v, 0)", 0, 2, (x, v) -> x.shelf(0, v, 0));
        range("shelf(0, 0, v)", 0, 2, (x, v) -> x.shelf(0, 0, v));
        range("shelf(0, 1, v)", 0, 3, (x, v) -> x.shelf(0, 1, v));
        range("taken(v, 0)", 0, 3, (x, v) -> x.taken(v, 0));
        for (int shelf = 0; shelf < 2; shelf++) {
            int on = shelf;
            range("taken(" + on + ", v), of KINDS", 0, 5, (x, v) -> x.taken(on, v));
            range("taken(" + on + ", v), of rows", 10, 13, (x, v) -> x.taken(on, v));
        }
        range("trace(v)", 0, 2, TonightCovers.NONE, (x, v) -> {
            x.act(0, 3, 5);
            return x.trace(v);
        });
        range("many(v)", 0, 6, (x, v) -> x.many(v));
    }

    // any number does: seed(v), put(.., v), alterRow(.., v), act(.., x), shelf(.., 2, n), sheet(.., -1, n)
    private static void nothingIsBadHere() {
        for (int v : new int[] {0, -1, -15, Integer.MIN_VALUE, Integer.MAX_VALUE}) {
            TonightCovers x = some();
            Due.is("seed(" + v + ")", x.seed(v), 1);
            Due.is("z", x.seed(1), v);
            Due.is("put(0, 0, " + v + ")", x.put(0, 0, v), 1);
            Due.is("alterRow(0, 0, " + v + ")", x.alterRow(0, 0, v), 0);
            Due.is("row(0, 0)", x.row(0, 0), v);
            Due.is("act(0, 0, " + v + ")", x.act(0, 0, v), v * 6);
            Due.is("shelf(0, 2, " + v + ")", x.shelf(0, 2, v), 1);
            Due.is("sheet(0, -1, " + v + ")", x.sheet(0, -1, v), 1);
        }
    }

    // "of several the first named: BAD .. FULL"
    private static void fullBehindBad() {
        TonightCovers x = Due.told("star of 7;".repeat(8), 8);
        Due.is("FULL", x.player(0, 0), TonightCovers.FULL);
        for (int v : new int[] {-1, 6}) {
            Due.is("no such KIND", x.player(v, 0), TonightCovers.BAD);
        }
        for (int v : new int[] {-1, 8}) {
            Due.is("no such part", x.player(0, v), TonightCovers.BAD);
        }
        Due.feed(x, " ".repeat(200));
        Due.is("FULL", x.feed(0, 1), TonightCovers.FULL);
        Due.is("no 0 bytes", x.feed(0, 0), TonightCovers.BAD);
        Due.is("no 9 bytes", x.feed(0, 9), TonightCovers.BAD);
    }

    // "of several the first named: BAD .. NONE": where nobody does, BAD is named all the same
    private static void noneBehindBad() {
        TonightCovers x = Due.told("star of 7 ill 9;", 1);
        x.weigh(7, 0);
        Due.is("plays", x.plays(0, 6), TonightCovers.NONE);
        Due.is("plays, no such one", x.plays(1, 6), TonightCovers.BAD);
        Due.is("plays, no such part", x.plays(0, 8), TonightCovers.BAD);
        Due.is("enoughFor", x.enoughFor(0, 6), TonightCovers.NONE);
        Due.is("enoughFor, no such one", x.enoughFor(1, 6), TonightCovers.BAD);
        Due.is("enoughFor, no such part", x.enoughFor(0, 8), TonightCovers.BAD);
        Due.is("learnerFor", x.learnerFor(6, 1), TonightCovers.NONE);
        Due.is("learnerFor, no such part", x.learnerFor(8, 1), TonightCovers.BAD);
        Due.is("learnerFor, no such n", x.learnerFor(6, 31), TonightCovers.BAD);
        Due.is("fewestFor", x.fewestFor(9999), TonightCovers.NONE);
        Due.is("fewestFor, no such v", x.fewestFor(10000), TonightCovers.BAD);
        x.sheet(0, 2, 1);
        x.put(0, 0, 5);
        Due.is("fits", x.fits(0, 0, 1), TonightCovers.NONE);
        Due.is("fits, no such one", x.fits(0, 1, 1), TonightCovers.BAD);
        Due.is("house()", x.house(), TonightCovers.NONE);
        Due.is("worst()", x.worst(), TonightCovers.NONE);
        Due.is("again()", x.again(), TonightCovers.NONE);
    }

    // "and what the host refuses", as each promise names it: fits and taken, where nothing is
    private static void hostBehindBad() {
        TonightCovers x = some();
        Due.is("fits, missing", x.fits(1, 0, 0), -11);
        Due.is("fits, missing, no such one", x.fits(1, 3, 0), TonightCovers.BAD);
        Due.is("fits, missing, no such what", x.fits(1, 0, 2), TonightCovers.BAD);
        Due.is("fits, missing, what 1", x.fits(1, 0, 1), -11);
        Due.is("taken, nothing", x.taken(1, 13), -11);
        Due.is("taken, nothing, no such as", x.taken(1, 14), TonightCovers.BAD);
        Due.is("taken, of another KIND", x.taken(0, 5), -13);
        Due.is("taken, of another KIND, no such as", x.taken(0, 6), TonightCovers.BAD);
    }
}
