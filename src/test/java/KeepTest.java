/** Promises 44 to 46: how many there are, and what is kept. */
final class KeepTest {
    private KeepTest() {
    }

    public static void main(String[] args) {
        counts();
        kept();
        notKept();
        latest();
        Due.end();
    }

    private static void counts() {
        TonightCovers x = Due.told("player of 4 ill 1;cover of 4;page of 2 ill 3;player of 6 knows 3;", 4);
        Due.feed(x, "abc");
        x.prove(0, 7);
        x.shelf(0, 0, 1);
        x.act(0, 3, 1);
        int[] want = {4, 2, 7, 3, 7, 3, 4};
        for (int what = 0; what < 7; what++) {
            Due.is("many(" + what + ")", x.many(what), want[what]);
        }
        TonightCovers y = Due.told("player of 4;player of 5;player of 5;", 3);
        Due.is("parts that are somebody's OWN", y.many(3), 2);
        Due.is("many(7)", x.many(7), TonightCovers.BAD);
        Due.is("many(-1)", x.many(-1), TonightCovers.BAD);
    }

    private static void kept() {
        TonightCovers x = Due.told("player of 4 ill 3;cover of 2;part 1 7;help 8;book 1;least 9;throat 50;", 2);
        x.teach(0, 6, 42);
        x.nights(2);
        x.seed(-5);
        int taken = x.state(1);
        Due.is("again() where nothing is kept", x.again(), TonightCovers.NONE);
        Due.is("keep()", x.keep(), 1);
        for (int turn = 0; turn < 2; turn++) {
            x.player(5, 5);
            x.mind(0, 3);
            x.teach(0, 6, 1);
            x.sick(0, 9);
            x.weigh(1, 1);
            for (int law = 0; law < 4; law++) {
                x.set(law, 0);
            }
            x.nights(5);
            x.seed(3);
            Due.is("again()", x.again(), 2);
            Due.is("PLAYERS", x.many(0), 2);
            Due.is("KIND", x.of(0, 0), 0);
            Due.is("OWN", x.of(1, 1), 2);
            Due.is("ILL", x.of(0, 2), 1);
            Due.is("KNOWS", x.knows(0, 6), 42);
            Due.is("WEIGHT", x.partOf(1, 0), 7);
            Due.is("HELP", x.lawOf(0), 8);
            Due.is("BOOK", x.lawOf(1), 1);
            Due.is("LEAST", x.lawOf(2), 9);
            Due.is("THROAT", x.lawOf(3), 50);
            Due.is("NIGHT", x.state(0), 2);
            Due.is("TAKINGS", x.state(1), taken);
            Due.is("z", x.seed(-5), -5);
        }
    }

    private static void notKept() {
        TonightCovers x = Due.told("player of 4;cover of 2;", 2);
        x.prove(0, 2);
        x.sheet(0, 0, 2);
        x.shelf(0, 0, 1);
        x.act(0, 0, 1);
        Due.feed(x, "ab");
        x.keep();
        x.prove(0, 3);
        x.sheet(0, 1, 3);
        x.put(0, 0, 77);
        x.shelf(0, 0, 0);
        x.act(0, 1, 1);
        Due.is("one byte more", x.feed('c', 1), 3);
        x.again();
        Due.is("ROWS", x.many(4), 3);
        Due.is("SHEETS", x.item(0, 1, 0), 77);
        Due.is("SHELVES", x.taken(0, 0), 0);
        Due.is("THE TRACE", x.many(6), 2);
        Due.is("THE TAPE", x.many(5), 3);
    }

    private static void latest() {
        TonightCovers x = Due.told("player of 4;", 1);
        x.keep();
        x.player(1, 1);
        x.keep();
        x.player(2, 2);
        Due.is("what was kept latest", x.again(), 2);
        x.player(3, 3);
        Due.is("it stays", x.again(), 2);
        Due.is("the second one", x.of(1, 0), 1);
        Due.is("nobody more", x.of(2, 0), TonightCovers.BAD);
    }
}
