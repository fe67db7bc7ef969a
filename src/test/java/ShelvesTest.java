/** Promises 40 to 43: SHELVES, ACTS and THE TRACE. */
final class ShelvesTest {
    private ShelvesTest() {
    }

    public static void main(String[] args) {
        kinds();
        rows();
        byItsNumber();
        refusedShelves();
        acts();
        actsOnItsOwnNumber();
        wrapping();
        noAct();
        Due.end();
    }

    private static void kinds() {
        TonightCovers x = Due.told("player of 0;cover of 0;page of 0;second of 0;prompter of 0;star of 0;", 6);
        int[] asSets = {0b000001, 0b000011, 0b000101, 0b001011, 0b010101, 0b100001};
        for (int kind = 0; kind < 6; kind++) {
            Due.is("shelf(3, 0, " + kind + ")", x.shelf(3, 0, kind), 1);
            for (int as = 0; as < 6; as++) {
                Due.is(kind + " taken as " + as, x.taken(3, as), (asSets[kind] >> as & 1) == 1 ? kind : -13);
            }
            for (int as = 10; as < 14; as++) {
                Due.is(kind + " taken as a row", x.taken(3, as), -13);
            }
        }
        x.mind(5, 3);
        Due.is("the KIND that it is now", x.taken(3, 1), 5);
        Due.is("no star any more", x.taken(3, 5), -13);
    }

    private static void rows() {
        TonightCovers x = Due.told("player of 0;", 1);
        for (int sort = 0; sort < 4; sort++) {
            x.sheet(1, sort, 5 + sort);
            Due.is("shelf(2, 1, 1)", x.shelf(2, 1, 1), 1);
            for (int as = 10; as < 14; as++) {
                Due.is("sort " + sort + " taken as " + as, x.taken(2, as), as - 10 == sort ? 5 + sort : -13);
            }
            for (int as = 0; as < 6; as++) {
                Due.is("a row taken as one", x.taken(2, as), -13);
            }
            Due.is("a row does nothing", x.act(2, 0, 5), 0);
        }
        x.sheet(1, 0, 7);
        Due.is("the row that it was", x.taken(2, 13), 8);
        x.sheet(1, -1, 0);
        Due.is("the row that it was, still", x.taken(2, 13), 8);
        Due.is("a missing one", x.shelf(2, 1, 1), 1);
        Due.is("is nothing", x.taken(2, 13), -11);
        x.sheet(1, 2, 0);
        x.shelf(2, 1, 1);
        Due.is("a row of none", x.taken(2, 12), 0);
    }

    private static void byItsNumber() {
        TonightCovers x = Due.told("player of 0;player of 0;", 2);
        x.shelf(0, 0, 1);
        Due.feed(x, "page of 3;");
        x.company();
        Due.is("there is no such one at the time", x.taken(0, 0), -11);
        Due.is("and no act", x.act(0, 0, 1), 0);
        x.player(2, 4);
        Due.is("there is one again", x.taken(0, 2), 1);
        Due.is("shelf(0, 2, 99)", x.shelf(0, 2, 99), 1);
        Due.is("nothing", x.taken(0, 2), -11);
    }

    private static void refusedShelves() {
        TonightCovers x = Due.told("player of 0;", 1);
        x.shelf(0, 0, 0);
        Due.is("nothing at first", x.taken(1, 0), -11);
        Due.is("shelf(4, 0, 0)", x.shelf(4, 0, 0), TonightCovers.BAD);
        Due.is("shelf(-1, 0, 0)", x.shelf(-1, 0, 0), TonightCovers.BAD);
        Due.is("shelf(0, 3, 0)", x.shelf(0, 3, 0), TonightCovers.BAD);
        Due.is("shelf(0, -1, 0)", x.shelf(0, -1, 0), TonightCovers.BAD);
        Due.is("no such one", x.shelf(0, 0, 1), TonightCovers.BAD);
        Due.is("no one below 0", x.shelf(0, 0, -1), TonightCovers.BAD);
        Due.is("no such SHEET", x.shelf(0, 1, 4), TonightCovers.BAD);
        Due.is("no SHEET below 0", x.shelf(0, 1, -1), TonightCovers.BAD);
        Due.is("it stays", x.taken(0, 0), 0);
        int[] bad = {-1, 6, 7, 8, 9, 14, Integer.MAX_VALUE, Integer.MIN_VALUE};
        for (int as : bad) {
            Due.is("taken(0, " + as + ")", x.taken(0, as), TonightCovers.BAD);
            Due.is("taken(1, " + as + ")", x.taken(1, as), TonightCovers.BAD);
        }
        Due.is("taken(4, 0)", x.taken(4, 0), TonightCovers.BAD);
        Due.is("taken(-1, 0)", x.taken(-1, 0), TonightCovers.BAD);
    }

    private static void act(TonightCovers x, int act, int v, int want, int... trace) {
        Due.is("act(1, " + act + ", " + v + ")", x.act(1, act, v), want);
        Due.is("how many bodies", x.many(6), trace.length);
        for (int i = 0; i < trace.length; i++) {
            Due.is("trace(" + i + ")", x.trace(i), trace[i]);
        }
        Due.is("trace behind the last", x.trace(trace.length), TonightCovers.NONE);
        Due.is("trace(-1)", x.trace(-1), TonightCovers.NONE);
        Due.is("trace(30)", x.trace(30), TonightCovers.NONE);
    }

    // number 1, its OWN part 4: a - n is 3
    private static void acts() {
        TonightCovers x = Due.told("player of 0;player of 4;", 2);
        x.shelf(1, 0, 1);
        act(x, 0, 10, 59, 10);
        act(x, 1, 10, 67, 11, 10);
        act(x, 2, 10, 3, 12);
        act(x, 2, -10, -3, 12);
        act(x, 3, 10, 67 ^ 220, 13, 11, 10);
        x.mind(1, 1);
        act(x, 0, 10, 59, 10);
        act(x, 1, 10, 201, 20, 11, 10);
        act(x, 2, 10, 3, 12);
        act(x, 3, 10, 201 ^ 220, 13, 20, 11, 10);
        x.mind(1, 2);
        act(x, 0, 10, -59, 30, 10);
        act(x, 1, 10, -51, 11, 30, 10);
        act(x, 3, 10, -51 ^ 220, 31, 13, 11, 30, 10, 12);
        act(x, 3, 11, -57 ^ 220, 31, 13, 11, 30, 10, 12);
        x.mind(1, 3);
        act(x, 0, 10, 118, 51, 10);
        act(x, 1, 10, 378, 20, 11, 51, 10);
        act(x, 2, 10, 1 - 4, 50, 12);
        act(x, 3, 10, 378 ^ 220, 13, 20, 11, 51, 10);
        x.mind(1, 4);
        act(x, 0, 10, -54, 40, 30, 10);
        act(x, 1, 10, -46 ^ -18, 41, 11, 40, 30, 10, 40, 30, 10);
        act(x, 2, 10, 3, 12);
        act(x, 3, 10, -46 ^ -18 ^ 220, 31, 13, 41, 11, 40, 30, 10, 40, 30, 10, 12);
        x.mind(1, 5);
        act(x, 0, 10, 59, 10);
        act(x, 1, 10, 67, 11, 10);
        act(x, 2, 10, 3 * 5, 61, 12, 10);
        act(x, 3, 10, (67 ^ 220) - 1, 60, 13, 11, 10);
    }

    // parts() of the number itself: of a page that moves it is added
    private static void actsOnItsOwnNumber() {
        TonightCovers x = Due.told("player of 7;page of 0;player of 1;", 3);
        x.shelf(1, 0, 1);
        act(x, 3, 0, (1 ^ 220) - 1, 31, 13, 11, 30, 10, 12);
        Due.feed(x, "player of 7;player of 1;");
        x.company();
        act(x, 2, 10, -15, 12);
        act(x, 3, 10, 61 ^ 220, 13, 11, 10);
        x.mind(1, 2);
        act(x, 2, 10, -15, 12);
        act(x, 3, 10, -15, 31, 13, 11, 30, 10, 12);
        x.mind(1, 3);
        act(x, 2, 10, -15, 50, 12);
        x.mind(1, 4);
        act(x, 3, 10, -15, 31, 13, 41, 11, 40, 30, 10, 40, 30, 10, 12);
        x.mind(1, 5);
        act(x, 2, 10, -15, 61, 12);
        act(x, 0, 10, 59, 10);
    }

    private static void wrapping() {
        TonightCovers x = Due.told("player of 0;player of 0;", 2);
        x.shelf(1, 0, 1);
        act(x, 0, Integer.MAX_VALUE, Integer.MAX_VALUE * 6 - 1, 10);
        act(x, 2, Integer.MIN_VALUE, Integer.MIN_VALUE, 12);
        x.mind(1, 3);
        act(x, 2, Integer.MIN_VALUE, -(Integer.MAX_VALUE - 6), 50, 12);
        x.mind(1, 1);
        act(x, 1, 1 << 30, (-(1 << 31) - 1) * 3, 20, 11, 10);
    }

    private static void noAct() {
        TonightCovers x = Due.told("player of 4;", 1);
        x.sheet(0, 0, 1);
        x.shelf(0, 1, 0);
        x.shelf(1, 0, 0);
        int[][] calls = {{4, 0}, {-1, 0}, {1, 4}, {1, -1}, {2, 0}, {0, 0}};
        for (int[] call : calls) {
            act(x, 1, 10, 68, 11, 10);
            Due.is("act(" + call[0] + ", " + call[1] + ", 10)", x.act(call[0], call[1], 10), 0);
            Due.is("no TRACE then", x.many(6), 0);
            Due.is("no body then", x.trace(0), TonightCovers.NONE);
        }
    }
}
