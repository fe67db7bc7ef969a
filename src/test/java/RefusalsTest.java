import java.util.ArrayList;
import java.util.List;

/**
 * "Answers below 0, where not told otherwise, are refusals; such a call changes nothing": each refused call is made on
 * one of two twins, and so is each that asks what is tried; then all that can be read of both must be the same.
 */
final class RefusalsTest {
    interface Call {
        long on(TonightCovers x);
    }

    private RefusalsTest() {
    }

    public static void main(String[] args) {
        twinsAreTold();
        refusedTelling();
        refusedNights();
        refusedAsking();
        refusedRowsAndSheets();
        refusedShelvesAndCounts();
        asking();
        reading();
        fullOnes();
        nothingKept();
        tapeOfARefusedCompany();
        Due.end();
    }

    // something of all there is: LAWS, PLAYERS, NIGHTS, z, THE TAPE, ROWS, SHEETS, SHELVES, THE TRACE, and what is kept
    private static TonightCovers twin() {
        TonightCovers x = Due.told("star of 7;page of 2 knows 33;", 2);
        x.seed(5);
        x.keep();
        Due.feed(x, "player of 0;cover of 1 ill 4;second of 7 knows 70;help 5;book 6;least 7;throat 8;part 0 9;");
        x.company();
        x.teach(0, 6, 44);
        x.nights(2);
        x.seed(99);
        x.prove(2, 2);
        x.alterRow(1, 1, 77);
        x.sheet(0, 0, 3);
        x.put(0, 1, 55);
        x.sheet(1, 3, 2);
        x.put(1, 0, -9);
        x.shelf(0, 0, 2);
        x.shelf(1, 1, 1);
        x.act(0, 3, 12);
        Due.feed(x, "page of 5; throat 3;");
        return x;
    }

    private static List<Long> all(TonightCovers x) {
        List<Long> all = new ArrayList<>();
        company(x, all);
        for (int i = 0; i < 3; i++) {
            for (int what = 0; what < 3; what++) {
                all.add((long) x.row(i, what));
            }
            all.add((long) x.judge(i));
        }
        for (int sheet = 0; sheet < 4; sheet++) {
            for (int i = 0; i < 4; i++) {
                all.add((long) x.item(sheet, sheet == 1 ? 3 : 0, i));
            }
        }
        for (int shelf = 0; shelf < 4; shelf++) {
            all.add((long) x.taken(shelf, 0));
            all.add((long) x.taken(shelf, 13));
        }
        for (int i = 0; i < 6; i++) {
            all.add((long) x.trace(i));
        }
        all.add((long) x.company());
        company(x, all);
        all.add((long) x.again());
        company(x, all);
        return all;
    }

    private static void company(TonightCovers x, List<Long> all) {
        for (int law = 0; law < 4; law++) {
            all.add((long) x.lawOf(law));
        }
        for (int part = 0; part < 8; part++) {
            all.add((long) x.partOf(part, 0));
        }
        for (int player = 0; player < x.many(0); player++) {
            for (int what = 0; what < 3; what++) {
                all.add((long) x.of(player, what));
            }
            for (int part = 0; part < 8; part++) {
                all.add((long) x.knows(player, part));
            }
        }
        for (int what = 0; what < 7; what++) {
            all.add((long) x.many(what));
            all.add((long) x.state(what));
        }
        int z = x.seed(0);
        x.seed(z);
        all.add((long) z);
    }

    private static void changesNothing(String call, TonightCovers x, TonightCovers untouched) {
        List<Long> got = all(x);
        List<Long> want = all(untouched);
        Due.is(call + ": how much can be read", got.size(), want.size());
        for (int i = 0; i < Math.min(got.size(), want.size()); i++) {
            Due.is(call + ": what is read as number " + i, got.get(i), want.get(i));
        }
    }

    private static void refused(String call, int want, Call made) {
        TonightCovers x = twin();
        Due.is(call, made.on(x), want);
        changesNothing(call, x, twin());
    }

    private static void bad(String call, Call made) {
        refused(call, TonightCovers.BAD, made);
    }

    private static void asks(String call, Call made) {
        TonightCovers x = twin();
        made.on(x);
        changesNothing(call, x, twin());
    }

    // what the twins are must be seen, or nothing is compared
    private static void twinsAreTold() {
        TonightCovers x = twin();
        int[] many = {3, 1, 6, 3, 2, 20, 5};
        for (int what = 0; what < 7; what++) {
            Due.is("many(" + what + ") of a twin", x.many(what), many[what]);
        }
        Due.is("NIGHT of a twin", x.state(0), 2);
        Due.is("judge(2) of a twin", x.judge(2), 2);
        Due.is("SHELF 0 of a twin", x.taken(0, 3), 2);
        Due.is("SHELF 1 of a twin", x.taken(1, 13), 2);
        Due.is("company() of a twin", x.company(), 1);
        Due.is("again() of a twin", x.again(), 2);
    }

    private static void refusedTelling() {
        bad("feed(1, 0)", x -> x.feed(1, 0));
        bad("feed(1, 9)", x -> x.feed(1, 9));
        bad("set(4, 1)", x -> x.set(4, 1));
        bad("set(-1, 1)", x -> x.set(-1, 1));
        bad("set(0, 10)", x -> x.set(0, 10));
        bad("set(1, -1)", x -> x.set(1, -1));
        bad("set(2, 100)", x -> x.set(2, 100));
        bad("set(3, 100)", x -> x.set(3, 100));
        bad("weigh(0, 10)", x -> x.weigh(0, 10));
        bad("weigh(7, -1)", x -> x.weigh(7, -1));
        bad("weigh(8, 1)", x -> x.weigh(8, 1));
        bad("player(6, 0)", x -> x.player(6, 0));
        bad("player(0, 8)", x -> x.player(0, 8));
        bad("player(0, -1)", x -> x.player(0, -1));
        bad("mind(0, 6)", x -> x.mind(0, 6));
        bad("mind(0, -1)", x -> x.mind(0, -1));
        bad("mind(3, 0)", x -> x.mind(3, 0));
        bad("teach(0, 0, 100)", x -> x.teach(0, 0, 100));
        bad("teach(0, 0, -1)", x -> x.teach(0, 0, -1));
        bad("teach(0, 8, 1)", x -> x.teach(0, 8, 1));
        bad("teach(1, -1, 1)", x -> x.teach(1, -1, 1));
        bad("teach(3, 0, 1)", x -> x.teach(3, 0, 1));
        bad("sick(0, 10)", x -> x.sick(0, 10));
        bad("sick(1, -1)", x -> x.sick(1, -1));
        bad("sick(3, 1)", x -> x.sick(3, 1));
    }

    private static void refusedNights() {
        bad("nights(0)", x -> x.nights(0));
        bad("nights(61)", x -> x.nights(61));
        bad("nights(-1)", x -> x.nights(-1));
        bad("spoilt(0)", x -> x.spoilt(0));
        bad("spoilt(31)", x -> x.spoilt(31));
        bad("state(6)", x -> x.state(6));
    }

    private static void refusedAsking() {
        bad("knew(0, 0, 61)", x -> x.knew(0, 0, 61));
        bad("earned(61)", x -> x.earned(61));
        bad("plays(3, 0)", x -> x.plays(3, 0));
        bad("kindFor(0, 31)", x -> x.kindFor(0, 31));
        bad("enoughFor(0, 8)", x -> x.enoughFor(0, 8));
        bad("learnerFor(0, 0)", x -> x.learnerFor(0, 0));
        bad("fewestFor(10000)", x -> x.fewestFor(10000));
        bad("fits(4, 0, 0)", x -> x.fits(4, 0, 0));
        refused("plays(0, 5)", TonightCovers.NONE, x -> x.plays(0, 5));
        refused("house()", TonightCovers.NONE, x -> x.house());
        refused("enoughFor(1, 1), ILL", TonightCovers.NONE, x -> x.enoughFor(1, 1));
        refused("fewestFor(9999)", TonightCovers.NONE, x -> x.fewestFor(9999));
        refused("fits(2, 0, 0)", -11, x -> x.fits(2, 0, 0));
        refused("fits(1, 0, 1)", TonightCovers.NONE, x -> x.fits(1, 0, 1));
        bad("odds(9, 0, 0)", x -> x.odds(9, 0, 0));
        bad("hope(100, 0)", x -> x.hope(100, 0));
    }

    private static void refusedRowsAndSheets() {
        bad("prove(0, 0)", x -> x.prove(0, 0));
        bad("prove(0, 11)", x -> x.prove(0, 11));
        bad("prove(3, 1)", x -> x.prove(3, 1));
        refused("alterRow(2, 0, 5)", -9, x -> x.alterRow(2, 0, 5));
        refused("alterRow(0, 3, 5)", -9, x -> x.alterRow(0, 3, 5));
        refused("alterRow(1, -1, 5)", -9, x -> x.alterRow(1, -1, 5));
        bad("judge(3)", x -> x.judge(3));
        bad("minds(4, 0, 0, 1)", x -> x.minds(4, 0, 0, 1));
        bad("minds(0, 0, 2, 2)", x -> x.minds(0, 0, 2, 2));
        bad("minds(0, 0, 0, 9)", x -> x.minds(0, 0, 0, 9));
        refused("minds(2, 0, 0, 3)", -11, x -> x.minds(2, 0, 0, 3));
        refused("minds(1, 0, 0, 2)", -13, x -> x.minds(1, 0, 0, 2));
        refused("minds(0, 1, 0, 3)", -12, x -> x.minds(0, 1, 0, 3));
        refused("minds(0, -1, 0, 3)", -12, x -> x.minds(0, -1, 0, 3));
        bad("sheet(4, 0, 1)", x -> x.sheet(4, 0, 1));
        bad("sheet(0, 4, 1)", x -> x.sheet(0, 4, 1));
        bad("sheet(0, -2, 1)", x -> x.sheet(0, -2, 1));
        bad("sheet(0, 0, 41)", x -> x.sheet(0, 0, 41));
        refused("sheet(0, 0, -1)", -14, x -> x.sheet(0, 0, -1));
        bad("put(4, 0, 1)", x -> x.put(4, 0, 1));
        refused("put(2, 0, 1)", -11, x -> x.put(2, 0, 1));
        refused("put(0, 3, 1)", -12, x -> x.put(0, 3, 1));
        refused("put(0, -1, 1)", -12, x -> x.put(0, -1, 1));
        refused("item(0, 3, 1)", -13, x -> x.item(0, 3, 1));
    }

    private static void refusedShelvesAndCounts() {
        bad("shelf(4, 0, 0)", x -> x.shelf(4, 0, 0));
        bad("shelf(0, 3, 0)", x -> x.shelf(0, 3, 0));
        bad("shelf(0, -1, 0)", x -> x.shelf(0, -1, 0));
        bad("shelf(0, 0, 3)", x -> x.shelf(0, 0, 3));
        bad("shelf(0, 0, -1)", x -> x.shelf(0, 0, -1));
        bad("shelf(0, 1, 4)", x -> x.shelf(0, 1, 4));
        bad("shelf(1, 1, -1)", x -> x.shelf(1, 1, -1));
        refused("taken(2, 0)", -11, x -> x.taken(2, 0));
        refused("taken(0, 5)", -13, x -> x.taken(0, 5));
        refused("trace(5)", TonightCovers.NONE, x -> x.trace(5));
        bad("many(7)", x -> x.many(7));
    }

    // "What is asked here is TRIED; nothing changes": SPOILT not even z
    private static void asking() {
        asks("spoilt(30)", x -> x.spoilt(30));
        asks("knew(0, 0, 60)", x -> x.knew(0, 0, 60));
        asks("earned(60)", x -> x.earned(60));
        asks("plays(0, 6)", x -> x.plays(0, 6));
        asks("house()", x -> x.house());
        asks("worst()", x -> x.worst());
        asks("kindFor(0, 30)", x -> x.kindFor(0, 30));
        asks("enoughFor(0, 6)", x -> x.enoughFor(0, 6));
        asks("learnerFor(1, 30)", x -> x.learnerFor(1, 30));
        asks("fewestFor(100)", x -> x.fewestFor(100));
        asks("fits(0, 0, 0)", x -> x.fits(0, 0, 0));
        asks("odds(8, 4, 0)", x -> x.odds(8, 4, 0));
        asks("hope(99, 0)", x -> x.hope(99, 0));
        asks("judge(1)", x -> x.judge(1));
    }

    private static void reading() {
        asks("lawOf(0)", x -> x.lawOf(0));
        asks("partOf(0, 1)", x -> x.partOf(0, 1));
        asks("of(0, 3)", x -> x.of(0, 3));
        asks("does(0, 0, 0)", x -> x.does(0, 0, 0));
        asks("state(5)", x -> x.state(5));
        asks("row(0, 0)", x -> x.row(0, 0));
        asks("item(0, 0, 0)", x -> x.item(0, 0, 0));
        asks("taken(0, 0)", x -> x.taken(0, 0));
        asks("trace(0)", x -> x.trace(0));
        asks("many(2)", x -> x.many(2));
        asks("minds(0, 3, 0, 0), of none", x -> x.minds(0, 3, 0, 0));
    }

    private static TonightCovers full() {
        TonightCovers x = twin();
        for (int i = 3; i < 8; i++) {
            x.player(0, i);
        }
        Due.is("a full TAPE", x.feed(0, 1), 21);
        for (int n = 29; n <= 197; n += 8) {
            x.feed(0, 8);
        }
        return x;
    }

    // "FULL (-2)"
    private static void fullOnes() {
        TonightCovers x = full();
        Due.is("player(0, 0)", x.player(0, 0), TonightCovers.FULL);
        changesNothing("player(0, 0), FULL", x, full());
        TonightCovers y = full();
        Due.is("THE TAPE", y.many(5), 197);
        Due.is("feed(0, 4)", y.feed(0, 4), TonightCovers.FULL);
        changesNothing("feed(0, 4), FULL", y, full());
    }

    // "NONE: nothing is kept", "NONE: nobody"
    private static void nothingKept() {
        TonightCovers x = Due.told("star of 7;help 9;", 1);
        x.nights(3);
        Due.is("again()", x.again(), TonightCovers.NONE);
        TonightCovers y = Due.told("star of 7;help 9;", 1);
        y.nights(3);
        changesNothing("again(), NONE", x, y);
        TonightCovers nobody = new TonightCovers();
        Due.is("worst()", nobody.worst(), TonightCovers.NONE);
        Due.is("learnerFor(0, 1)", nobody.learnerFor(0, 1), TonightCovers.NONE);
        changesNothing("worst() and learnerFor(0, 1), NONE", nobody, new TonightCovers());
    }

    // "such a call changes nothing (but that THE TAPE is used up by company())"
    private static void tapeOfARefusedCompany() {
        TonightCovers x = twin();
        Due.is("a sign more", x.feed('x', 1), 21);
        Due.is("company()", x.company(), -120);
        Due.is("THE TAPE", x.many(5), 0);
        TonightCovers y = twin();
        for (char sign : "page of 5; throat 3;".toCharArray()) {
            x.feed(sign, 1);
        }
        changesNothing("company(), refused", x, y);
    }
}
