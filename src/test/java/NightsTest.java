/** Promises 15 to 19: NIGHTS, draws, and how all stands; and THE BILL that they go by. */
final class NightsTest {
    private NightsTest() {
    }

    public static void main(String[] args) {
        theBill();
        movingUp();
        aNight();
        forgettingByKind();
        theIll();
        refusedNights();
        takingsAreHeld();
        draws();
        aThroatAddsNothing();
        spoiltNights();
        states();
        Due.end();
    }

    private static void bill(TonightCovers x, int... players) {
        for (int part = 0; part < 8; part++) {
            Due.is("who plays " + part, x.partOf(part, 1), 1 + players[part]);
        }
    }

    private static void theBill() {
        TonightCovers x = Due.told("player of 2 knows 40; player of 2 knows 50; player of 2 knows 50;", 3);
        bill(x, -1, -1, 1, -1, -1, -1, -1, -1);
        x.sick(1, 1);
        bill(x, -1, -1, 2, -1, -1, -1, -1, -1);
        x.sick(2, 1);
        bill(x, -1, -1, 0, -1, -1, -1, -1, -1);
        x.set(2, 40);
        bill(x, -1, -1, 0, -1, -1, -1, -1, -1);
        x.set(2, 41);
        bill(x, -1, -1, -1, -1, -1, -1, -1, -1);
        Due.is("SHOW where all is CUT", x.state(2), 0);
        // GOOD as 0 is enough for LEAST 0, also a star's at a part that isn't its own
        TonightCovers y = Due.told("star of 3; least 0;", 1);
        bill(y, 0, -1, -1, -1, -1, -1, -1, -1);
    }

    private static void movingUp() {
        // 0 leaves its own part for one before it of no less WEIGHT; 1 goes to one behind it once its own is played
        TonightCovers x = Due.told("player of 2; player of 1; player of 1 knows 70;", 3);
        x.teach(0, 0, 20);
        x.teach(1, 5, 30);
        bill(x, 0, 2, -1, -1, -1, 1, -1, -1);
        Due.is("SHOW", x.state(2), 3 * (20 + 70 + 30));
        Due.is("MOVED", x.state(5), 2);
        x.weigh(0, 2);
        bill(x, -1, 2, 0, -1, -1, 1, -1, -1);
        x.weigh(0, 4);
        bill(x, 0, 2, -1, -1, -1, 1, -1, -1);
        x.sick(2, 1);
        bill(x, 0, 1, -1, -1, -1, -1, -1, -1);
        // a part that is CUT lets nobody go behind it
        x.teach(1, 1, 9);
        bill(x, 0, -1, -1, -1, -1, -1, -1, -1);
        // the own part played by another lets its owner go
        x.teach(0, 0, 0);
        x.teach(0, 1, 10);
        bill(x, -1, 0, -1, -1, -1, 1, -1, -1);
    }

    private static void aNight() {
        TonightCovers x = Due.told("player of 3; cover of 4 knows 20; part 3 5;", 2);
        x.teach(0, 5, 10);
        x.teach(1, 5, 8);
        Due.is("nights(1)", x.nights(1), 5 * 60 + 3 * 20);
        Due.is("LEARNT", x.knows(0, 3), 62);
        Due.is("FORGOTTEN", x.knows(0, 5), 9);
        Due.is("held to 0", x.knows(0, 6), 0);
        Due.is("LEARNT by the cover", x.knows(1, 4), 25);
        Due.is("the cover FORGETS nothing", x.knows(1, 5), 8);
        Due.is("NIGHT", x.state(0), 1);
        Due.is("nights(2)", x.nights(2), 360 + 5 * 62 + 3 * 25 + 5 * 64 + 3 * 30);
        Due.is("NIGHT", x.state(0), 3);
        x.teach(0, 3, 98);
        x.nights(1);
        Due.is("held to 99", x.knows(0, 3), 99);
        // one that is well and has no part FORGETS of each
        x.set(2, 99);
        x.nights(1);
        Due.is("FORGOTTEN of part 5", x.knows(0, 5), 5);
        Due.is("its own part is played at LEAST 99", x.knows(0, 3), 99);
        x.teach(0, 3, 98);
        x.nights(1);
        Due.is("FORGOTTEN of its own", x.knows(0, 3), 97);
    }

    private static void forgettingByKind() {
        int[] own = {52, 55, 56, 54, 50, 49};
        int[] other = {7, 8, 6, 8, 11, 6};
        for (int kind = 0; kind < 6; kind++) {
            TonightCovers x = new TonightCovers();
            x.player(kind, 1);
            x.teach(0, 1, 50);
            x.teach(0, 6, 8);
            x.set(1, 5);
            x.set(2, 25);
            x.nights(1);
            Due.is("its own behind a NIGHT, " + kind, x.knows(0, 1), own[kind]);
            Due.is("another behind a NIGHT, " + kind, x.knows(0, 6), other[kind]);
        }
        TonightCovers y = Due.told("prompter of 0; book 9;", 1);
        y.nights(20);
        Due.is("less than nothing FORGOTTEN, held to 99", y.knows(0, 6), 99);
        Due.is("nothing LEARNT", y.knows(0, 0), 60);
        TonightCovers z = Due.told("star of 1 knows 0; least 0;", 1);
        z.nights(1);
        Due.is("less than nothing LEARNT, held to 0", z.knows(0, 1), 0);
    }

    private static void theIll() {
        TonightCovers x = Due.told("player of 3 ill 2; player of 4;", 2);
        x.teach(0, 6, 9);
        Due.is("nights(1)", x.nights(1), 180);
        Due.is("ILL is 1 less", x.of(0, 2), 1);
        Due.is("nothing LEARNT", x.knows(0, 3), 60);
        Due.is("nothing FORGOTTEN", x.knows(0, 6), 9);
        Due.is("nights(1)", x.nights(1), 366);
        Due.is("well", x.of(0, 2), 0);
        Due.is("nothing FORGOTTEN on the last one", x.knows(0, 6), 9);
        Due.is("nights(1)", x.nights(1), 366 + 180 + 192);
        Due.is("well still", x.of(0, 2), 0);
        Due.is("FORGOTTEN", x.knows(0, 6), 8);
    }

    private static void refusedNights() {
        TonightCovers x = Due.told("player of 3;", 1);
        Due.is("nights(0)", x.nights(0), TonightCovers.BAD);
        Due.is("nights(61)", x.nights(61), TonightCovers.BAD);
        Due.is("nights(-1)", x.nights(-1), TonightCovers.BAD);
        Due.is("NIGHT", x.state(0), 0);
        Due.is("nights(60)", x.nights(60), 3 * (99 * 60 - 39 * 20 + 19 * 20));
        Due.is("NIGHT", x.state(0), 60);
    }

    private static void takingsAreHeld() {
        TonightCovers x = new TonightCovers();
        for (int i = 0; i < 8; i++) {
            x.player(0, i);
            x.teach(i, i, 99);
            x.weigh(i, 9);
        }
        int show = 8 * 9 * 99;
        Due.is("nights(60)", x.nights(60), 60 * show);
        Due.is("nights(60)", x.nights(60), 120 * show);
        Due.is("nights(20)", x.nights(20), 140 * show);
        Due.is("earned by more, not held", x.earned(3), 143 * show);
        Due.is("nights(1), held", x.nights(1), 999999);
        Due.is("TAKINGS", x.state(1), 999999);
        Due.is("all eight play their own", x.state(5), 0);
        Due.is("and nothing is CUT", x.state(3), 0);
        Due.is("night() at the most", x.night(), show);
        Due.is("TAKINGS", x.state(1), 999999);
        Due.is("earned by one more, not held", x.earned(1), 999999 + 9 * (99 * 8 - (x.state(4) == 0 ? 0 : 99)));
    }

    // from z = 1: 16838, 38526 and 10113 are drawn
    private static void draws() {
        TonightCovers x = Due.told("player of 0; player of 1; player of 2; throat 26;", 3);
        // 16838 leaves 2 by 3; 38526 leaves 26 by 100
        Due.is("night() without a throat", x.night(), 3 * 180);
        Due.is("two draws", x.seed(1), 1103527590 * 1103515245 + 12345);
        Due.is("NIGHT", x.state(0), 1);
        Due.is("nobody ILL", x.state(4), 0);
        x.set(3, 27);
        Due.is("night() with a throat", x.night(), 3 * (62 + 62));
        Due.is("ILL 3, a NIGHT on", x.of(2, 2), 2);
        Due.is("others", x.state(4), 4);
        Due.is("three draws", x.seed(1), (1103527590 * 1103515245 + 12345) * 1103515245 + 12345);
        Due.is("TAKINGS", x.state(1), 540 + 372);
        Due.is("state(0)", x.state(0), 2);
        TonightCovers y = new TonightCovers();
        Due.is("night() of nobody", y.night(), 0);
        Due.is("nothing drawn", y.seed(Integer.MIN_VALUE), 1);
        Due.is("NIGHT all the same", y.state(0), 1);
        Due.is("seed takes any", y.seed(-1), Integer.MIN_VALUE);
        Due.is("and tells it", y.seed(0), -1);
    }

    private static void aThroatAddsNothing() {
        TonightCovers x = Due.told("player of 0 ill 8; throat 99;", 1);
        x.night();
        Due.is("as it was, if that is more than 3", x.of(0, 2), 7);
        x.sick(0, 2);
        x.seed(1);
        x.night();
        Due.is("3, if it was less", x.of(0, 2), 2);
    }

    private static void spoiltNights() {
        TonightCovers x = Due.told("player of 0; player of 1; throat 0;", 2);
        Due.is("spoilt by no throats", x.spoilt(30), 0);
        x.set(3, 50);
        int z = 1;
        int count = 0;
        for (int i = 0; i < 30; i++) {
            z = z * 1103515245 + 12345;
            z = z * 1103515245 + 12345;
            if ((z >>> 16) % 100 < 50) {
                z = z * 1103515245 + 12345;
                count += (z >>> 16) % 10 > 0 ? 1 : 0;
            }
        }
        Due.is("spoilt by those whose throat lasts", x.spoilt(30), count);
        Due.is("z is as it was", x.seed(1), 1);
        Due.is("nobody is ILL", x.state(4), 0);
        Due.is("NIGHT", x.state(0), 0);
        // one who is CUT anyhow spoils nothing
        x.teach(0, 0, 0);
        x.teach(1, 1, 0);
        Due.is("spoilt where all is CUT", x.spoilt(30), 0);
        Due.is("spoilt(0)", x.spoilt(0), TonightCovers.BAD);
        Due.is("spoilt(31)", x.spoilt(31), TonightCovers.BAD);
        Due.is("spoilt(-1)", x.spoilt(-1), TonightCovers.BAD);
        spoiltOneByOne();
        Due.is("spoilt of nobody", new TonightCovers().spoilt(1), 0);
    }

    private static void spoiltOneByOne() {
        TonightCovers x = Due.told("player of 0; throat 99;", 1);
        int z = 1;
        int count = 0;
        for (int n = 1; n <= 30; n++) {
            z = z * 1103515245 + 12345;
            z = z * 1103515245 + 12345;
            if ((z >>> 16) % 100 < 99) {
                z = z * 1103515245 + 12345;
                count += (z >>> 16) % 10 > 0 ? 1 : 0;
            }
            Due.is("spoilt(" + n + ")", x.spoilt(n), count);
        }
    }

    private static void states() {
        TonightCovers x = Due.told("player of 2; player of 1; player of 1 knows 70; page of 7 ill 3;", 4);
        x.teach(0, 0, 20);
        Due.is("NIGHT", x.state(0), 0);
        Due.is("TAKINGS", x.state(1), 0);
        Due.is("SHOW", x.state(2), 270);
        Due.is("parts that are CUT", x.state(3), 0b11111100);
        Due.is("those ILL", x.state(4), 8);
        Due.is("MOVED", x.state(5), 1);
        x.nights(1);
        Due.is("NIGHT", x.state(0), 1);
        Due.is("TAKINGS", x.state(1), 270);
        Due.is("SHOW of now", x.state(2), 3 * (22 + 72));
        x.sick(2, 1);
        Due.is("parts that are CUT now", x.state(3), 0b11111100);
        x.sick(0, 1);
        Due.is("and now", x.state(3), 0b11111101);
        Due.is("MOVED now", x.state(5), 0);
        x.sick(0, 0);
        Due.is("MOVED and now", x.state(5), 1);
        x.sick(1, 1);
        Due.is("SHOW without one more", x.state(2), 3 * 22);
        Due.is("state(6)", x.state(6), TonightCovers.BAD);
        Due.is("state(-1)", x.state(-1), TonightCovers.BAD);
    }
}
