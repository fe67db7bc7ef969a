/** Promises 36 to 39: SHEETS, their items, and what is taken from one. */
final class SheetsTest {
    private SheetsTest() {
    }

    public static void main(String[] args) {
        making();
        refusedSheets();
        items();
        refusedItems();
        minds();
        refusedMinds();
        Due.end();
    }

    private static void making() {
        TonightCovers x = new TonightCovers();
        for (int sheet = 0; sheet < 4; sheet++) {
            Due.is("missing at first", x.item(sheet, 0, 0), -11);
            Due.is("a row of 40", x.sheet(sheet, sheet, 40), 1);
            Due.is("all 0", x.item(sheet, sheet, 39), 0);
            Due.is("no more", x.item(sheet, sheet, 40), -12);
        }
        x.put(2, 0, 9);
        x.put(2, 3, 9);
        x.put(2, 39, 9);
        Due.is("made anew", x.sheet(2, 2, 4), 1);
        Due.is("all 0 again", x.item(2, 2, 3), 0);
        Due.is("the first one, too", x.item(2, 2, 0), 0);
        Due.is("of four", x.item(2, 2, 4), -12);
        Due.is("longer again", x.sheet(2, 3, 40), 1);
        Due.is("all 0 there, too", x.item(2, 3, 39), 0);
        Due.is("of another sort", x.item(2, 2, 0), -13);
        Due.is("of none", x.sheet(2, 1, 0), 1);
        Due.is("no item", x.item(2, 1, 0), -12);
        Due.is("missing", x.sheet(2, -1, 0), 1);
        Due.is("is missing", x.item(2, 1, 0), -11);
        Due.is("others are there", x.item(1, 1, 0), 0);
    }

    private static void refusedSheets() {
        TonightCovers x = new TonightCovers();
        x.sheet(1, 2, 2);
        Due.is("sheet(4, 0, 0)", x.sheet(4, 0, 0), TonightCovers.BAD);
        Due.is("sheet(-1, 0, 0)", x.sheet(-1, 0, 0), TonightCovers.BAD);
        Due.is("sheet(1, 4, 0)", x.sheet(1, 4, 0), TonightCovers.BAD);
        Due.is("sheet(1, -2, 0)", x.sheet(1, -2, 0), TonightCovers.BAD);
        Due.is("sheet(1, 0, 41)", x.sheet(1, 0, 41), TonightCovers.BAD);
        Due.is("sheet(1, 0, -1)", x.sheet(1, 0, -1), -14);
        Due.is("sheet(1, 0, min)", x.sheet(1, 0, Integer.MIN_VALUE), -14);
        Due.is("BAD is named before -14", x.sheet(4, 0, -1), TonightCovers.BAD);
        Due.is("BAD is named before -14", x.sheet(1, 4, -1), TonightCovers.BAD);
        Due.is("it stays", x.item(1, 2, 1), 0);
        Due.is("n counts nothing if missing", x.sheet(1, -1, 41), 1);
        Due.is("n counts nothing if missing", x.sheet(1, -1, -41), 1);
        Due.is("it is missing", x.item(1, 2, 1), -11);
    }

    private static void items() {
        TonightCovers x = new TonightCovers();
        int[] put = {0, 127, 128, -129, 32768, 0x12345678, Integer.MIN_VALUE, -1};
        int[][] want = {
            {0, 127, -128, 127, 0, 0x78, 0, -1},
            {0, 127, 128, -129, -32768, 0x5678, 0, -1},
            put, put};
        for (int sort = 0; sort < 4; sort++) {
            x.sheet(sort, sort, put.length);
            for (int i = 0; i < put.length; i++) {
                Due.is("put(" + sort + ", " + i + ", " + put[i] + ")", x.put(sort, i, put[i]), 1);
            }
            for (int i = 0; i < put.length; i++) {
                Due.is("item(" + sort + ", " + sort + ", " + i + ")", x.item(sort, sort, i), want[sort][i]);
            }
        }
    }

    private static void refusedItems() {
        TonightCovers x = new TonightCovers();
        x.sheet(1, 2, 2);
        Due.is("put(4, 0, 0)", x.put(4, 0, 0), TonightCovers.BAD);
        Due.is("put(-1, 0, 0)", x.put(-1, 0, 0), TonightCovers.BAD);
        Due.is("put(0, 0, 0)", x.put(0, 0, 0), -11);
        Due.is("put(0, -1, 0)", x.put(0, -1, 0), -11);
        Due.is("put(1, 2, 0)", x.put(1, 2, 0), -12);
        Due.is("put(1, -1, 0)", x.put(1, -1, 0), -12);
        Due.is("item(4, 0, 0)", x.item(4, 0, 0), TonightCovers.BAD);
        Due.is("item(-1, 0, 0)", x.item(-1, 0, 0), TonightCovers.BAD);
        Due.is("item(1, 4, 0)", x.item(1, 4, 0), TonightCovers.BAD);
        Due.is("item(1, -1, 0)", x.item(1, -1, 0), TonightCovers.BAD);
        Due.is("item(0, 4, 0)", x.item(0, 4, 0), TonightCovers.BAD);
        Due.is("item(0, 0, 0)", x.item(0, 0, 0), -11);
        Due.is("item(1, 3, 0)", x.item(1, 3, 0), -13);
        Due.is("-13 is named before -12", x.item(1, 3, 9), -13);
        Due.is("item(1, 2, 2)", x.item(1, 2, 2), -12);
        Due.is("item(1, 2, -1)", x.item(1, 2, -1), -12);
    }

    private static void minds() {
        TonightCovers x = Due.told("player of 0; player of 5; page of 5; star of 7;", 4);
        x.sheet(2, 0, 5);
        int[] bytes = {99, 100, -1, 7, 0};
        for (int i = 0; i < 5; i++) {
            x.put(2, i, bytes[i]);
        }
        Due.is("minds(2, 0, 0, 4)", x.minds(2, 0, 0, 4), 4);
        int[] own = {0, 5, 5, 7};
        int[] want = {99, 99, 0, 7};
        for (int i = 0; i < 4; i++) {
            Due.is("KNOWS of " + i, x.knows(i, own[i]), want[i]);
        }
        Due.is("KNOWS of no other part", x.knows(0, 5), 0);
        Due.is("minds(2, 3, 1, 2)", x.minds(2, 3, 1, 2), 2);
        Due.is("from one on, from i on", x.knows(1, 5), 7);
        Due.is("and the next", x.knows(2, 5), 0);
        Due.is("not the others", x.knows(3, 7), 7);
        Due.is("none, behind the last item", x.minds(2, 5, 3, 0), 0);
        Due.is("nothing changes", x.knows(3, 7), 7);
        TonightCovers y = Due.told("page of 3;".repeat(8), 8);
        y.sheet(0, 0, 40);
        y.put(0, 39, 8);
        Due.is("of all eight", y.minds(0, 32, 0, 8), 8);
        Due.is("KNOWS of the first one", y.knows(0, 3), 0);
        Due.is("KNOWS of the last one", y.knows(7, 3), 8);
        Due.is("n of nine", y.minds(0, 0, 0, 9), TonightCovers.BAD);
    }

    private static void refusedMinds() {
        TonightCovers x = Due.told("player of 0; player of 5;", 2);
        x.sheet(0, 0, 3);
        x.sheet(1, 3, 3);
        Due.is("minds(4, ..)", x.minds(4, 0, 0, 1), TonightCovers.BAD);
        Due.is("minds(-1, ..)", x.minds(-1, 0, 0, 1), TonightCovers.BAD);
        Due.is("no such one", x.minds(0, 0, 2, 0), TonightCovers.BAD);
        Due.is("no one below 0", x.minds(0, 0, -1, 1), TonightCovers.BAD);
        Due.is("n below 0", x.minds(0, 0, 0, -1), TonightCovers.BAD);
        Due.is("n far below 0", x.minds(0, 0, 0, -9), TonightCovers.BAD);
        Due.is("n above 8", x.minds(0, 0, 0, 9), TonightCovers.BAD);
        Due.is("n beyond the last one", x.minds(0, 0, 1, 2), TonightCovers.BAD);
        Due.is("BAD is named before -11", x.minds(2, 0, 1, 2), TonightCovers.BAD);
        Due.is("missing", x.minds(2, 0, 0, 1), -11);
        Due.is("missing, n 0", x.minds(2, 0, 0, 0), -11);
        Due.is("of longs", x.minds(1, 0, 0, 1), -13);
        Due.is("-13 is named before -12", x.minds(1, 9, 0, 0), -13);
        Due.is("i below 0", x.minds(0, -1, 0, 1), -12);
        Due.is("i below 0, n 0", x.minds(0, -1, 0, 0), -12);
        Due.is("i beyond", x.minds(0, 4, 0, 0), -12);
        Due.is("not so many", x.minds(0, 2, 0, 2), -12);
        Due.is("i far beyond", x.minds(0, Integer.MAX_VALUE, 0, 2), -12);
        Due.is("nothing changes", x.knows(0, 0) + x.knows(1, 5), 120);
        TonightCovers nobody = new TonightCovers();
        nobody.sheet(0, 0, 3);
        Due.is("of nobody", nobody.minds(0, 0, 0, 0), TonightCovers.BAD);
    }
}
