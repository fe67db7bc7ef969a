/** Section 3 of the document, ROWS, ACTS, SHEETS and SHELVES: each sentence that names a boundary, before its test. */
final class EdgesOfThingsTest {
    private EdgesOfThingsTest() {
    }

    public static void main(String[] args) {
        rowsOfNone();
        oneToTenRows();
        noSuchRow();
        judgeOfNone();
        judgeOfTheLast();
        intsThatWrap();
        cutTowards0();
        partedBy0();
        traceOfTheLatest();
        traceOfTheMost();
        sheetsAtFirst();
        fortyAtMost();
        sizeBelow0();
        missingByNothing();
        narrowed();
        lowest32Bits();
        asLowAsThese();
        outsideASheet();
        mindsAtTheEnds();
        mindsHeld();
        shelvesAtFirst();
        noSuchOneAtTheTime();
        missingOnAShelf();
        oneUnderIt();
        Due.end();
    }

    // "ROWS of one: (its part in that NIGHT (8: none) ..)"
    private static void rowsOfNone() {
        TonightCovers x = Due.told("player of 7 ill 1;player of 0;", 2);
        Due.is("prove(0, 2)", x.prove(0, 2), 2);
        Due.is("none while ILL", x.row(0, 0), 8);
        Due.is("KNOWS", x.row(0, 1), 60);
        Due.is("SHOW", x.row(0, 2), 180);
        Due.is("its part", x.row(1, 0), 7);
        Due.is("what it KNOWS behind it", x.row(1, 1), 62);
        Due.is("SHOW of both", x.row(1, 2), 186 + 180);
        x.prove(1, 1);
        Due.is("part 0", x.row(0, 0), 0);
    }

    // "ROWS of one by n NIGHTS (1 to 10): how many. BAD."
    private static void oneToTenRows() {
        TonightCovers x = Due.told("player of 0;", 1);
        for (int n : new int[] {0, 11, -1, Integer.MAX_VALUE, Integer.MIN_VALUE}) {
            Due.is("prove(0, " + n + ")", x.prove(0, n), TonightCovers.BAD);
            Due.is("no ROWS", x.many(4), 0);
        }
        for (int n : new int[] {1, 10, 9, 1}) {
            Due.is("prove(0, " + n + ")", x.prove(0, n), n);
            Due.is("ROWS", x.many(4), n);
            Due.is("the last ROW", x.row(n - 1, 2), 3 * (58 + 2 * n));
            Due.is("no more", x.row(n, 2), -9);
        }
    }

    // "-9: there is none such, another what" (row, alterRow)
    private static void noSuchRow() {
        TonightCovers x = Due.told("player of 0;", 1);
        int[][] cells = {{0, 0}, {0, 2}, {1, 0}, {1, 2}, {2, 0}, {-1, 0}, {0, 3}, {0, -1}, {1, 3}, {1, -1},
            {Integer.MAX_VALUE, 0}, {Integer.MIN_VALUE, 2}, {0, Integer.MAX_VALUE}, {0, Integer.MIN_VALUE}};
        for (int[] cell : cells) {
            Due.is("row, none there", x.row(cell[0], cell[1]), -9);
            Due.is("alterRow, none there", x.alterRow(cell[0], cell[1], 5), -9);
        }
        x.prove(0, 2);
        for (int i = 0; i < cells.length; i++) {
            String at = "(" + cells[i][0] + ", " + cells[i][1] + ")";
            int was = x.row(cells[i][0], cells[i][1]);
            Due.is("there is such: row" + at, was == -9 ? 0 : 1, i < 4 ? 1 : 0);
            Due.is("alterRow" + at, x.alterRow(cells[i][0], cells[i][1], i < 4 ? was : 1), was);
        }
        Due.is("no other was altered", x.judge(0), 0);
        Due.is("it becomes -9", x.alterRow(0, 0, -9), 0);
        Due.is("it is -9", x.alterRow(0, 0, Integer.MIN_VALUE), -9);
        Due.is("it is the least", x.row(0, 0), Integer.MIN_VALUE);
    }

    // "0 all is right (also if there are none)"; "BAD"
    private static void judgeOfNone() {
        TonightCovers x = new TonightCovers();
        Due.is("judge of nobody", x.judge(0), TonightCovers.BAD);
        x.player(0, 0);
        Due.is("no ROWS", x.judge(0), 0);
        Due.is("judge(1)", x.judge(1), TonightCovers.BAD);
        Due.is("judge(-1)", x.judge(-1), TonightCovers.BAD);
        x.prove(0, 1);
        Due.is("judge(1), with ROWS", x.judge(1), TonightCovers.BAD);
        Due.is("all is right", x.judge(0), 0);
    }

    // "else the first ROW that isn't, and 1 more": the first, the last, each of its numbers
    private static void judgeOfTheLast() {
        TonightCovers x = Due.told("player of 0;", 1);
        x.prove(0, 10);
        for (int what = 0; what < 3; what++) {
            int last = x.alterRow(9, what, -1);
            Due.is("the last ROW", x.judge(0), 10);
            int first = x.alterRow(0, what, -1);
            Due.is("the first ROW", x.judge(0), 1);
            x.alterRow(0, what, first);
            Due.is("the last ROW again", x.judge(0), 10);
            x.alterRow(9, what, last);
            Due.is("all is right", x.judge(0), 0);
        }
    }

    private static void act(TonightCovers x, int act, int v, int want) {
        Due.is("KIND " + x.of(1, 0) + ": act(0, " + act + ", " + v + ")", x.act(0, act, v), want);
    }

    // "ACTS of things, with a number x (ints that wrap)": number 1, its OWN part 4; told by longs, and narrowed
    private static void intsThatWrap() {
        TonightCovers x = Due.told("player of 0;player of 4;", 2);
        x.shelf(0, 0, 1);
        for (int v : new int[] {Integer.MAX_VALUE, Integer.MIN_VALUE, 1 << 30, 357913942, -357913942, 715827882}) {
            int bows = (int) (v * 6L - 1);
            int sings = (int) (v * 6L + 7);
            x.mind(1, 0);
            act(x, 0, v, bows);
            act(x, 1, v, sings);
            act(x, 2, v, v / 3);
            act(x, 3, v, sings ^ 220);
            x.mind(1, 1);
            act(x, 1, v, (int) (sings * 3L));
            act(x, 3, v, (int) (sings * 3L) ^ 220);
            x.mind(1, 2);
            act(x, 0, v, (int) (1 - v * 6L));
            act(x, 1, v, (int) (9 - v * 6L));
            act(x, 3, v, (int) (9 - v * 6L) ^ 220);
            x.mind(1, 3);
            act(x, 0, v, (int) (v * 12L - 2));
            act(x, 1, v, (int) ((v * 12L + 6) * 3));
            act(x, 2, v, (int) (v - 7L) / 3 - 4);
            x.mind(1, 4);
            act(x, 0, v, (int) (6 - v * 6L));
            act(x, 1, v, (int) (14 - v * 6L) ^ -18);
            x.mind(1, 5);
            act(x, 2, v, (int) (v / 3 * 5L));
            act(x, 3, v, (sings ^ 220) - 1);
        }
    }

    // "x by (a - n), cut"; "Quotients are cut towards 0"
    private static void cutTowards0() {
        TonightCovers x = Due.told("player of 0;player of 4;", 2);
        x.shelf(0, 0, 1);
        int[][] want = {{2, 0}, {3, 1}, {-1, 0}, {-2, 0}, {-3, -1}, {-4, -1}, {0, 0}, {5, 1}, {-5, -1}};
        for (int[] pair : want) {
            Due.is(pair[0] + " by 3", x.act(0, 2, pair[0]), pair[1]);
        }
        TonightCovers y = Due.told("player of 0;player of 0;player of 0;", 3);
        y.shelf(0, 0, 2);
        Due.is("7 by -2", y.act(0, 2, 7), -3);
        Due.is("-7 by -2", y.act(0, 2, -7), 3);
        Due.is("1 by -2", y.act(0, 2, 1), 0);
        y.shelf(0, 0, 1);
        Due.is("the least by -1 wraps", y.act(0, 2, Integer.MIN_VALUE), Integer.MIN_VALUE);
        Due.is("the greatest by -1", y.act(0, 2, Integer.MAX_VALUE), -Integer.MAX_VALUE);
    }

    // "(-15 if these are the same; that is all that act() answers then)": its number is its OWN part
    private static void partedBy0() {
        for (int kind = 0; kind < 6; kind++) {
            TonightCovers x = Due.told("player of 0;player of 1;", 2);
            x.mind(1, kind);
            x.shelf(0, 0, 1);
            int moves = kind == 2 || kind == 4 ? -15 : x.act(0, 3, 9);
            Due.is("KIND " + kind + " parts", x.act(0, 2, 9), -15);
            Due.is("KIND " + kind + " parts 0", x.act(0, 2, 0), -15);
            Due.is("KIND " + kind + " moves", x.act(0, 3, 9), moves);
            Due.is("moves otherwise", moves == -15 ? 1 : 0, kind == 2 || kind == 4 ? 1 : 0);
            Due.is("KIND " + kind + " bows", x.act(0, 0, 0) == -15 ? 1 : 0, 0);
        }
        TonightCovers y = Due.told("player of 0;player of 0;", 2);
        y.shelf(0, 0, 0);
        Due.is("0 and 0", y.act(0, 2, 1), -15);
        y.shelf(0, 0, 1);
        Due.is("answered by itself, not so", y.act(0, 2, 15), -15);
    }

    private static void trace(TonightCovers x, int... want) {
        Due.is("how many bodies", x.many(6), want.length);
        for (int i = 0; i < want.length; i++) {
            Due.is("trace(" + i + ")", x.trace(i), want[i]);
        }
        for (int i : new int[] {want.length, -1, 30, 31, Integer.MAX_VALUE, Integer.MIN_VALUE}) {
            Due.is("trace(" + i + ")", x.trace(i), TonightCovers.NONE);
        }
    }

    // "THE TRACE: numbers of the bodies that ran in the latest act(), as they began"; "0, and no TRACE then"
    private static void traceOfTheLatest() {
        TonightCovers x = Due.told("player of 0;star of 1;", 2);
        trace(x);
        x.sheet(0, 0, 1);
        x.shelf(0, 0, 1);
        x.shelf(1, 1, 0);
        x.act(0, 3, 5);
        trace(x, 60, 13, 11, 10);
        x.act(0, 0, 5);
        trace(x, 10);
        x.act(0, 2, 5);
        trace(x, 61, 12);
        int[][] none = {{-1, 0}, {4, 0}, {0, -1}, {0, 4}, {1, 0}, {2, 0}};
        for (int[] call : none) {
            x.act(0, 0, 5);
            Due.is("act(" + call[0] + ", " + call[1] + ", 5)", x.act(call[0], call[1], 5), 0);
            trace(x);
        }
    }

    // "the first 30 are kept": the longest there is has 11, and is whole
    private static void traceOfTheMost() {
        TonightCovers x = Due.told("player of 0;prompter of 5;", 2);
        x.shelf(3, 0, 1);
        x.act(3, 3, 1);
        trace(x, 31, 13, 41, 11, 40, 30, 10, 40, 30, 10, 12);
    }

    // "SHEETS 0 to 3 .. or missing (at first)"
    private static void sheetsAtFirst() {
        TonightCovers x = Due.told("player of 0;", 1);
        for (int sheet = 0; sheet < 4; sheet++) {
            Due.is("item", x.item(sheet, sheet, 0), -11);
            Due.is("put", x.put(sheet, 0, 0), -11);
            Due.is("minds", x.minds(sheet, 0, 0, 0), -11);
            Due.is("fits", x.fits(sheet, 0, 0), -11);
        }
    }

    // "rows of bytes (sort 0), shorts (1), ints (2) or longs (3), 40 at most"
    private static void fortyAtMost() {
        TonightCovers x = new TonightCovers();
        for (int sort = 0; sort < 4; sort++) {
            Due.is("of 40", x.sheet(sort, sort, 40), 1);
            Due.is("of 41", x.sheet(sort, sort, 41), TonightCovers.BAD);
            Due.is("of very many", x.sheet(sort, sort, Integer.MAX_VALUE), TonightCovers.BAD);
            Due.is("put the last", x.put(sort, 39, 7), 1);
            Due.is("the last", x.item(sort, sort, 39), 7);
            Due.is("put behind it", x.put(sort, 40, 7), -12);
            Due.is("behind it", x.item(sort, sort, 40), -12);
            Due.is("of 0", x.sheet(sort, sort, 0), 1);
            Due.is("has none", x.item(sort, sort, 0), -12);
            Due.is("takes none", x.put(sort, 0, 7), -12);
            Due.is("of 40 again", x.sheet(sort, sort, 40), 1);
            Due.is("all 0", x.item(sort, sort, 39), 0);
        }
    }

    // "-14 a size below 0"
    private static void sizeBelow0() {
        TonightCovers x = new TonightCovers();
        for (int sort = 0; sort < 4; sort++) {
            x.sheet(0, 1, 2);
            Due.is("of -1", x.sheet(0, sort, -1), -14);
            Due.is("of very few", x.sheet(0, sort, Integer.MIN_VALUE), -14);
            Due.is("it stays", x.item(0, 1, 1), 0);
        }
        Due.is("BAD is named first: no such SHEET", x.sheet(4, 0, -1), TonightCovers.BAD);
        Due.is("BAD is named first: no such sort", x.sheet(0, 4, -1), TonightCovers.BAD);
        Due.is("no such sort", x.sheet(0, -2, -1), TonightCovers.BAD);
    }

    // "or missing (sort -1; n counts nothing then)"
    private static void missingByNothing() {
        TonightCovers x = new TonightCovers();
        for (int n : new int[] {0, -1, 41, Integer.MIN_VALUE, Integer.MAX_VALUE}) {
            x.sheet(3, 0, 1);
            Due.is("missing by " + n, x.sheet(3, -1, n), 1);
            Due.is("is missing", x.item(3, 0, 0), -11);
        }
    }

    // "Item i becomes v, narrowed to its sort"
    private static void narrowed() {
        TonightCovers x = new TonightCovers();
        int[][] want = {{127, 127, 127}, {128, -128, 128}, {255, -1, 255}, {256, 0, 256}, {-128, -128, -128},
            {-129, 127, -129}, {32767, -1, 32767}, {32768, 0, -32768}, {65535, -1, -1}, {65536, 0, 0},
            {-32769, -1, 32767}, {Integer.MAX_VALUE, -1, -1}, {Integer.MIN_VALUE, 0, 0}};
        for (int sort = 0; sort < 4; sort++) {
            x.sheet(sort, sort, 1);
            for (int[] row : want) {
                x.put(sort, 0, row[0]);
                Due.is(row[0] + " of sort " + sort, x.item(sort, sort, 0), row[sort < 2 ? sort + 1 : 0]);
            }
        }
    }

    // "of longs the lowest 32 bits"
    private static void lowest32Bits() {
        TonightCovers x = new TonightCovers();
        x.sheet(0, 3, 2);
        for (int v : new int[] {-1, Integer.MIN_VALUE, Integer.MAX_VALUE}) {
            x.put(0, 1, v);
            Due.is("" + v, x.item(0, 3, 1), v);
            Due.is("the other", x.item(0, 3, 0), 0);
        }
    }

    // "An item may be as low as these, too"
    private static void asLowAsThese() {
        TonightCovers x = new TonightCovers();
        for (int v = -15; v < 0; v++) {
            for (int sort = 0; sort < 4; sort++) {
                x.sheet(sort, sort, 1);
                Due.is("put " + v, x.put(sort, 0, v), 1);
                Due.is("item " + v, x.item(sort, sort, 0), v);
            }
        }
    }

    // "-12 a place outside", and what is named before it
    private static void outsideASheet() {
        TonightCovers x = new TonightCovers();
        x.sheet(1, 1, 3);
        for (int i : new int[] {-1, 3, 40, Integer.MIN_VALUE, Integer.MAX_VALUE}) {
            Due.is("put at " + i, x.put(1, i, 5), -12);
            Due.is("item at " + i, x.item(1, 1, i), -12);
            Due.is("-13 first, at " + i, x.item(1, 2, i), -13);
            Due.is("-11 first, at " + i, x.item(0, 1, i), -11);
            Due.is("-11 first, put at " + i, x.put(0, i, 5), -11);
            Due.is("BAD first, at " + i, x.item(4, 1, i), TonightCovers.BAD);
            Due.is("BAD first, of no sort", x.item(0, 4, i), TonightCovers.BAD);
            Due.is("BAD first, put at " + i, x.put(-1, i, 5), TonightCovers.BAD);
        }
        for (int i = 0; i < 3; i++) {
            Due.is("put at " + i, x.put(1, i, i), 1);
            Due.is("item at " + i, x.item(1, 1, i), i);
        }
    }

    // "n numbers (0 to 8)"; "n goes beyond the last one"; "i is not 0 to how many items there are (also for n 0)"
    private static void mindsAtTheEnds() {
        TonightCovers x = Due.told("page of 3;".repeat(8), 8);
        x.sheet(0, 0, 10);
        x.sheet(1, 1, 10);
        int[][] want = {{0, 0, 8, 8}, {0, 0, 9, -1}, {0, 0, -1, -1}, {0, 1, 8, -1}, {0, 1, 7, 7}, {0, 7, 1, 1},
            {0, 7, 2, -1}, {0, 7, 0, 0}, {0, 8, 0, -1}, {0, -1, 0, -1}, {2, 0, 8, 8}, {3, 0, 8, -12}, {9, 0, 1, 1},
            {9, 0, 2, -12}, {10, 0, 0, 0}, {10, 0, 1, -12}, {11, 0, 0, -12}, {-1, 0, 0, -12}, {-1, 0, 1, -12},
            {Integer.MAX_VALUE, 0, 8, -12}, {Integer.MIN_VALUE, 0, 8, -12}, {0, 7, Integer.MAX_VALUE, -1},
            {0, Integer.MAX_VALUE, 1, -1}};
        for (int[] row : want) {
            String call = row[0] + ", " + row[1] + ", " + row[2] + ")";
            Due.is("minds(0, " + call, x.minds(0, row[0], row[1], row[2]), row[3]);
            Due.is("of shorts: minds(1, " + call, x.minds(1, row[0], row[1], row[2]), row[3] == -1 ? -1 : -13);
            Due.is("missing: minds(2, " + call, x.minds(2, row[0], row[1], row[2]), row[3] == -1 ? -1 : -11);
            Due.is("no such SHEET: minds(4, " + call, x.minds(4, row[0], row[1], row[2]), TonightCovers.BAD);
        }
        x.sheet(3, 0, 0);
        Due.is("none of none", x.minds(3, 0, 0, 0), 0);
        Due.is("one of none", x.minds(3, 0, 0, 1), -12);
        TonightCovers nobody = new TonightCovers();
        nobody.sheet(0, 0, 1);
        Due.is("of nobody", nobody.minds(0, 0, 0, 0), TonightCovers.BAD);
    }

    // "(held to 0 to 99)"
    private static void mindsHeld() {
        TonightCovers x = Due.told("page of 3;", 1);
        x.sheet(0, 0, 1);
        int[][] want = {{-1, 0}, {0, 0}, {1, 1}, {98, 98}, {99, 99}, {100, 99}, {127, 99}, {128, 0}, {-128, 0},
            {255, 0}};
        for (int[] pair : want) {
            x.put(0, 0, pair[0]);
            x.teach(0, 3, 50);
            Due.is("minds(0, 0, 0, 1)", x.minds(0, 0, 0, 1), 1);
            Due.is("KNOWS by " + pair[0], x.knows(0, 3), pair[1]);
        }
    }

    // "SHELVES 0 to 3 hold .. nothing (at first)"
    private static void shelvesAtFirst() {
        TonightCovers x = Due.told("player of 0;", 1);
        for (int shelf = 0; shelf < 4; shelf++) {
            for (int as : new int[] {0, 5, 10, 13}) {
                Due.is("nothing on " + shelf, x.taken(shelf, as), -11);
            }
            Due.is("no act", x.act(shelf, 0, 1), 0);
            for (int as : new int[] {-1, 6, 9, 14}) {
                Due.is("BAD is named first", x.taken(shelf, as), TonightCovers.BAD);
            }
        }
    }

    // "one of the PLAYERS (by its number; nothing, if there is no such one at the time)"
    private static void noSuchOneAtTheTime() {
        TonightCovers x = Due.told("player of 0;star of 1;", 2);
        x.shelf(0, 0, 0);
        x.shelf(1, 0, 1);
        Due.feed(x, "page of 3;");
        x.company();
        Due.is("there is a first one", x.taken(0, 2), 0);
        Due.is("there is no second one", x.taken(1, 0), -11);
        Due.is("as a row", x.taken(1, 10), -11);
        Due.is("no act", x.act(1, 0, 1), 0);
        Due.is("no second one to be held", x.shelf(2, 0, 1), TonightCovers.BAD);
        x.player(1, 7);
        Due.is("there is another second one", x.taken(1, 1), 1);
        Due.is("as what it is, no star", x.taken(1, 5), -13);
        Due.is("with its OWN part", x.act(1, 2, 12), 2);
    }

    // "the row of SHEET n (1; nothing, if missing), nothing (2)"
    private static void missingOnAShelf() {
        TonightCovers x = Due.told("player of 0;", 1);
        x.shelf(0, 0, 0);
        Due.is("a missing one", x.shelf(0, 1, 3), 1);
        Due.is("is nothing", x.taken(0, 10), -11);
        x.sheet(3, 0, 5);
        Due.is("still nothing", x.taken(0, 10), -11);
        Due.is("the row", x.shelf(0, 1, 3), 1);
        Due.is("five items", x.taken(0, 10), 5);
        x.sheet(3, -1, 0);
        Due.is("the row is held still", x.taken(0, 10), 5);
        Due.is("nothing, by any n", x.shelf(0, 2, Integer.MIN_VALUE), 1);
        Due.is("is nothing", x.taken(0, 10), -11);
        x.sheet(3, 3, 0);
        x.shelf(0, 1, 3);
        Due.is("a row of none is a row", x.taken(0, 13), 0);
        Due.is("of another sort", x.taken(0, 10), -13);
        Due.is("not one of the PLAYERS", x.taken(0, 0), -13);
    }

    // "taken for a thing of KIND as (0 to 5, or one under it)"; "for a row of sort as - 10 (as 10 to 13)"
    private static void oneUnderIt() {
        TonightCovers x = Due.told("player of 0;cover of 0;page of 0;second of 0;prompter of 0;star of 0;", 6);
        int[][] under = {{0, 1, 2, 3, 4, 5}, {1, 3}, {2, 4}, {3}, {4}, {5}};
        for (int kind = 0; kind < 6; kind++) {
            x.shelf(0, 0, kind);
            for (int as = 0; as < 6; as++) {
                boolean is = false;
                for (int one : under[as]) {
                    is |= one == kind;
                }
                Due.is("KIND " + kind + " taken as " + as, x.taken(0, as), is ? kind : -13);
            }
            for (int as : new int[] {10, 13}) {
                Due.is("taken as a row", x.taken(0, as), -13);
            }
            for (int as : new int[] {-1, 6, 9, 14}) {
                Due.is("taken as " + as, x.taken(0, as), TonightCovers.BAD);
            }
        }
    }
}
