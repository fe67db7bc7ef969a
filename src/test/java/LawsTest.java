/** Promises 1, 4, 5, 6 and 7: a new object, LAWS and PARTS. */
final class LawsTest {
    private LawsTest() {
    }

    public static void main(String[] args) {
        newObject();
        laws();
        parts();
        partsOfACompany();
        Due.end();
    }

    private static void newObject() {
        TonightCovers x = new TonightCovers();
        for (int what = 0; what <= 6; what++) {
            Due.is("many(" + what + ") of a new one", x.many(what), what == 2 ? 8 : 0);
        }
        int[] first = {3, 4, 10, 20};
        for (int law = 0; law < 4; law++) {
            Due.is("lawOf(" + law + ") of a new one", x.lawOf(law), first[law]);
        }
        for (int part = 0; part < 8; part++) {
            Due.is("weight of " + part + " of a new one", x.partOf(part, 0), 3);
            Due.is("who plays " + part, x.partOf(part, 1), 0);
            Due.is("whose own is " + part, x.partOf(part, 2), 0);
        }
        Due.is("again() of a new one", x.again(), TonightCovers.NONE);
        Due.is("z of a new one", x.seed(5), 1);
        int[] states = {0, 0, 0, 255, 0, 0};
        for (int what = 0; what < 6; what++) {
            Due.is("state(" + what + ") of a new one", x.state(what), states[what]);
        }
        for (int i = 0; i < 4; i++) {
            Due.is("sheet " + i + " of a new one", x.item(i, 0, 0), -11);
            Due.is("shelf " + i + " of a new one", x.taken(i, 0), -11);
        }
        Due.is("a player of a new one", x.of(0, 0), TonightCovers.BAD);
        Due.is("another object is as at first", new TonightCovers().seed(1), 1);
    }

    private static void laws() {
        TonightCovers x = new TonightCovers();
        int[] most = {9, 9, 99, 99};
        int[] was = {3, 4, 10, 20};
        for (int law = 0; law < 4; law++) {
            Due.is("set to -1", x.set(law, -1), TonightCovers.BAD);
            Due.is("set beyond", x.set(law, most[law] + 1), TonightCovers.BAD);
            Due.is("a refused set changes nothing", x.lawOf(law), was[law]);
            Due.is("set to the most", x.set(law, most[law]), was[law]);
            Due.is("the most", x.lawOf(law), most[law]);
            Due.is("set to 0", x.set(law, 0), most[law]);
            Due.is("0", x.lawOf(law), 0);
        }
        Due.is("set(-1, 0)", x.set(-1, 0), TonightCovers.BAD);
        Due.is("set(4, 0)", x.set(4, 0), TonightCovers.BAD);
        Due.is("lawOf(-1)", x.lawOf(-1), TonightCovers.BAD);
        Due.is("lawOf(4)", x.lawOf(4), TonightCovers.BAD);
        Due.is("lawOf(max)", x.lawOf(Integer.MAX_VALUE), TonightCovers.BAD);
    }

    private static void parts() {
        TonightCovers x = new TonightCovers();
        Due.is("weigh(7, 9)", x.weigh(7, 9), 3);
        Due.is("weigh(7, 0)", x.weigh(7, 0), 9);
        Due.is("partOf(7, 0)", x.partOf(7, 0), 0);
        Due.is("weigh(0, 10)", x.weigh(0, 10), TonightCovers.BAD);
        Due.is("weigh(0, -1)", x.weigh(0, -1), TonightCovers.BAD);
        Due.is("partOf(0, 0)", x.partOf(0, 0), 3);
        Due.is("weigh(8, 1)", x.weigh(8, 1), TonightCovers.BAD);
        Due.is("weigh(-1, 1)", x.weigh(-1, 1), TonightCovers.BAD);
        Due.is("partOf(8, 0)", x.partOf(8, 0), TonightCovers.BAD);
        Due.is("partOf(-1, 0)", x.partOf(-1, 0), TonightCovers.BAD);
        Due.is("partOf(0, 3)", x.partOf(0, 3), TonightCovers.BAD);
        Due.is("partOf(0, -1)", x.partOf(0, -1), TonightCovers.BAD);
    }

    private static void partsOfACompany() {
        TonightCovers x = Due.told("player of 2; cover of 2 knows 70; page of 5; player of 7 ill 1;", 4);
        Due.is("who plays 2", x.partOf(2, 1), 2);
        Due.is("who plays 5", x.partOf(5, 1), 3);
        Due.is("the ill one's part is cut", x.partOf(7, 1), 0);
        Due.is("whose own is 2", x.partOf(2, 2), 3);
        Due.is("whose own is 5", x.partOf(5, 2), 4);
        Due.is("whose own is 7, though ill", x.partOf(7, 2), 8);
        Due.is("whose own is 0", x.partOf(0, 2), 0);
        Due.is("the second one takes the part of the first", x.sick(1, 1), 0);
        Due.is("who plays 2 then", x.partOf(2, 1), 1);
        TonightCovers y = Due.told("page of 3;".repeat(8), 8);
        Due.is("whose own is 3, of all", y.partOf(3, 2), 255);
        Due.is("whose own is 0, of all", y.partOf(0, 2), 0);
    }
}
