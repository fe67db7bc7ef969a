/** Section 1 of the document, LAWS: each sentence that names a boundary, its words before its test. */
final class EdgesOfLawsTest {
    private EdgesOfLawsTest() {
    }

    public static void main(String[] args) {
        setsByBits();
        eachLaw();
        nightAtFirst();
        takingsAtMost();
        eachWeight();
        eightPlayers();
        illForSoMany();
        asOneComes();
        knowsOfEach();
        halfOf();
        helpIfNotItsOwn();
        tenIfNotItsOwn();
        bookTwice();
        fiveIfItsOwn();
        learnsBelow0();
        forgetsBelow0();
        aPartCountsForGoodAlone();
        theLeastNumber();
        thoseThatArentIll();
        noPartYet();
        goodAsLeast();
        playedAlready();
        ofNoMoreWeight();
        nobodyPlays();
        showOfNothing();
        asItBegins();
        learnsHeld();
        forgetsHeld();
        theIllForgetNothing();
        illLess();
        Due.end();
    }

    private static TonightCovers one(int kind, int own) {
        TonightCovers x = new TonightCovers();
        x.player(kind, own);
        return x;
    }

    // "Sets are told by bits": of nobody, of the last one, of all, and of no former one
    private static void setsByBits() {
        TonightCovers x = new TonightCovers();
        Due.is("whose OWN, of nobody", x.partOf(7, 2), 0);
        Due.is("those ILL, of nobody", x.state(4), 0);
        for (int i = 0; i < 8; i++) {
            x.player(0, i < 7 ? 3 : 7);
        }
        Due.is("whose OWN, the last one", x.partOf(7, 2), 128);
        Due.is("whose OWN, the others", x.partOf(3, 2), 127);
        Due.is("CUT, but two", x.state(3), 255 - 128 - 8);
        Due.is("FEWEST, the last one or the first", x.fewestFor(180), 1);
        x.weigh(7, 4);
        Due.is("FEWEST, the last one", x.fewestFor(181), 128);
        for (int i = 0; i < 8; i++) {
            x.sick(i, 1);
            Due.is("those ILL", x.state(4), (2 << i) - 1);
        }
        Due.feed(x, "player of 7;");
        x.company();
        Due.is("whose OWN, no former one", x.partOf(3, 2), 0);
        Due.is("whose OWN, the first one", x.partOf(7, 2), 1);
        Due.is("those ILL, no former one", x.state(4), 0);
        Due.is("parts that are somebody's OWN", x.many(3), 1);
        Due.is("of one of them all", x.fewestFor(180), 1);
        Due.is("WORST, no former one", x.worst(), 0);
    }

    // "HELP (0 to 9; 3 at first), 1 BOOK (0 to 9; 4), 2 LEAST (0 to 99; 10), 3 THROAT (0 to 99 of a hundred; 20)"
    private static void eachLaw() {
        int[] first = {3, 4, 10, 20};
        int[] most = {9, 9, 99, 99};
        for (int law = 0; law < 4; law++) {
            TonightCovers x = new TonightCovers();
            Due.is("LAW at first, " + law, x.lawOf(law), first[law]);
            for (int v : new int[] {-1, most[law] + 1, Integer.MIN_VALUE, Integer.MAX_VALUE}) {
                Due.is("set(" + law + ", " + v + ")", x.set(law, v), TonightCovers.BAD);
                Due.is("LAW behind a refused set", x.lawOf(law), first[law]);
            }
            for (int v : new int[] {0, 1, most[law] - 1, most[law]}) {
                int was = x.lawOf(law);
                Due.is("set(" + law + ", " + v + ")", x.set(law, v), was);
                Due.is("lawOf(" + law + ")", x.lawOf(law), v);
            }
        }
    }

    // "NIGHT (0 at first). TAKINGS (0 at first ..)"
    private static void nightAtFirst() {
        TonightCovers x = new TonightCovers();
        Due.is("NIGHT at first", x.state(0), 0);
        Due.is("TAKINGS at first", x.state(1), 0);
    }

    // "TAKINGS (.. 999999 at most)": 140 NIGHTS of 8 * 9 * 99, and one of just what is left
    private static void takingsAtMost() {
        TonightCovers x = new TonightCovers();
        for (int i = 0; i < 8; i++) {
            x.player(0, i);
            x.teach(i, i, 99);
            x.weigh(i, 9);
        }
        x.nights(60);
        x.nights(60);
        Due.is("nights(20)", x.nights(20), 997920);
        for (int i = 3; i < 8; i++) {
            x.sick(i, 1);
        }
        x.weigh(2, 3);
        Due.is("what is left", x.state(2), 2079);
        Due.is("just the most", x.nights(1), 999999);
        Due.is("no more", x.nights(1), 999999);
        Due.is("TAKINGS", x.state(1), 999999);
        x.set(3, 0);
        Due.is("night() tells its SHOW all the same", x.night(), 7 * 9 * 99 + 3 * 99);
        Due.is("TAKINGS", x.state(1), 999999);
    }

    // "PARTS 0 to 7, each with a WEIGHT (0 to 9; 3 at first)"
    private static void eachWeight() {
        TonightCovers x = new TonightCovers();
        for (int part = 0; part < 8; part++) {
            Due.is("weigh(" + part + ", -1)", x.weigh(part, -1), TonightCovers.BAD);
            Due.is("weigh(" + part + ", 10)", x.weigh(part, 10), TonightCovers.BAD);
            Due.is("3 at first", x.weigh(part, 9), 3);
            Due.is("9", x.weigh(part, 0), 9);
            Due.is("0", x.partOf(part, 0), 0);
        }
        Due.is("no part -1", x.weigh(-1, 3), TonightCovers.BAD);
        Due.is("no part 8", x.weigh(8, 3), TonightCovers.BAD);
    }

    // "PLAYERS, 8 at most, numbered as they come"
    private static void eightPlayers() {
        TonightCovers x = new TonightCovers();
        for (int i = 0; i < 8; i++) {
            Due.is("player " + i, x.player(0, 3), i);
        }
        Due.is("a ninth one", x.player(0, 3), TonightCovers.FULL);
        Due.is("eight", x.many(0), 8);
        Due.is("the eighth", x.of(7, 1), 3);
        Due.is("no ninth", x.of(8, 1), TonightCovers.BAD);
    }

    // "ILL for so many NIGHTS yet (0 to 9; 0: well)"
    private static void illForSoMany() {
        TonightCovers x = one(0, 3);
        Due.is("sick(0, -1)", x.sick(0, -1), TonightCovers.BAD);
        Due.is("sick(0, 10)", x.sick(0, 10), TonightCovers.BAD);
        Due.is("0 as it comes", x.sick(0, 9), 0);
        Due.is("9", x.sick(0, 1), 9);
        Due.is("ILL by 1", x.state(4), 1);
        Due.is("1", x.sick(0, 0), 1);
        Due.is("0: well", x.state(4), 0);
        Due.is("and plays", x.of(0, 3), 3);
    }

    // "its OWN 60, others 0, as it comes": also where another one was before
    private static void asOneComes() {
        for (int own = 0; own < 8; own++) {
            asOneComesWith(own);
        }
    }

    private static void asOneComesWith(int own) {
        TonightCovers x = new TonightCovers();
        x.player(4, 2);
        for (int part = 0; part < 8; part++) {
            x.teach(0, part, 77);
        }
        x.sick(0, 9);
        Due.is("company() of nothing", x.company(), 0);
        Due.is("player(1, " + own + ")", x.player(1, own), 0);
        for (int part = 0; part < 8; part++) {
            Due.is("KNOWS of " + part, x.knows(0, part), part == own ? 60 : 0);
        }
        Due.is("well", x.of(0, 2), 0);
        Due.is("KIND", x.of(0, 0), 1);
    }

    // "KNOWS each part (0 to 99 ..)"
    private static void knowsOfEach() {
        TonightCovers x = one(0, 3);
        for (int part = 0; part < 8; part++) {
            Due.is("teach to -1", x.teach(0, part, -1), TonightCovers.BAD);
            Due.is("teach to 100", x.teach(0, part, 100), TonightCovers.BAD);
            Due.is("as it came", x.teach(0, part, 99), part == 3 ? 60 : 0);
            Due.is("99", x.teach(0, part, 0), 99);
            Due.is("0", x.knows(0, part), 0);
        }
    }

    // "page: half of as player (cut)"
    private static void halfOf() {
        TonightCovers x = one(2, 3);
        int[][] want = {{0, 0}, {1, 0}, {2, 1}, {3, 1}, {98, 49}, {99, 49}};
        for (int[] pair : want) {
            x.teach(0, 3, pair[0]);
            x.teach(0, 4, pair[0]);
            Due.is("half of " + pair[0], x.does(0, 3, 0), 1000 + pair[1]);
            Due.is("half of " + pair[0] + " of another", x.does(0, 4, 0), 1000 + pair[1]);
        }
    }

    // "cover: as player; and HELP, if it isn't its OWN"
    private static void helpIfNotItsOwn() {
        TonightCovers x = one(1, 3);
        x.teach(0, 4, 99);
        for (int help : new int[] {0, 9}) {
            x.set(0, help);
            Due.is("its OWN", x.does(0, 3, 0), 1060);
            Due.is("another", x.does(0, 4, 0), 1099 + help);
            Due.is("another, at 0", x.does(0, 5, 0), 1000 + help);
            Due.is("LEARNS", x.does(0, 3, 1), 1002 + help);
        }
    }

    // "second: as cover; and 10, if it isn't its OWN"
    private static void tenIfNotItsOwn() {
        TonightCovers x = one(3, 3);
        x.teach(0, 4, 99);
        for (int help : new int[] {0, 9}) {
            x.set(0, help);
            Due.is("its OWN", x.does(0, 3, 0), 1060);
            Due.is("another", x.does(0, 4, 0), 1109 + help);
            Due.is("LEARNS", x.does(0, 4, 1), 1001 + help);
            Due.is("FORGETS", x.does(0, 4, 2), 1000);
        }
    }

    // "prompter: as page; and BOOK, twice that"
    private static void bookTwice() {
        TonightCovers x = one(4, 3);
        x.teach(0, 3, 99);
        for (int book : new int[] {0, 9}) {
            x.set(1, book);
            Due.is("its OWN", x.does(0, 3, 0), 1049 + 2 * book);
            Due.is("another", x.does(0, 4, 0), 1000 + 2 * book);
        }
    }

    // "star: as player, and 5, if it is its OWN; else 0"
    private static void fiveIfItsOwn() {
        TonightCovers x = one(5, 3);
        x.teach(0, 4, 99);
        Due.is("another", x.does(0, 4, 0), 1000);
        x.teach(0, 3, 99);
        Due.is("its OWN, above 99", x.does(0, 3, 0), 1104);
        x.teach(0, 3, 0);
        Due.is("its OWN, at 0", x.does(0, 3, 0), 1005);
    }

    // "star: as player, less 3 (so it may be below 0)"
    private static void learnsBelow0() {
        Due.is("LEARNS", one(5, 3).does(0, 3, 1), 999);
    }

    // "prompter: as page, less BOOK (so it may be below 0)"
    private static void forgetsBelow0() {
        TonightCovers x = one(4, 3);
        int[][] want = {{0, 1002}, {2, 1000}, {3, 999}, {9, 993}};
        for (int[] pair : want) {
            x.set(1, pair[0]);
            Due.is("FORGETS by BOOK " + pair[0], x.does(0, 0, 2), pair[1]);
        }
    }

    // "a part counts for what 0 alone, but must be one" (does)
    private static void aPartCountsForGoodAlone() {
        TonightCovers x = one(1, 3);
        for (int what = 0; what < 3; what++) {
            Due.is("does(0, -1, " + what + ")", x.does(0, -1, what), TonightCovers.BAD);
            Due.is("does(0, 8, " + what + ")", x.does(0, 8, what), TonightCovers.BAD);
        }
        for (int part = 0; part < 8; part++) {
            Due.is("LEARNS by " + part, x.does(0, part, 1), 1005);
            Due.is("FORGETS by " + part, x.does(0, part, 2), 1000);
        }
    }

    // "is played by the one that is most GOOD at it, of several the least number"
    private static void theLeastNumber() {
        TonightCovers x = new TonightCovers();
        x.player(0, 3);
        x.player(0, 3);
        x.player(0, 3);
        Due.is("all as GOOD", x.partOf(3, 1), 1);
        x.teach(2, 3, 61);
        Due.is("the last one more", x.partOf(3, 1), 3);
        x.teach(1, 3, 61);
        Due.is("the last two more", x.partOf(3, 1), 2);
    }

    // "of those that aren't ILL"
    private static void thoseThatArentIll() {
        TonightCovers x = new TonightCovers();
        x.player(0, 3);
        x.player(0, 3);
        x.sick(0, 1);
        Due.is("ILL for 1 NIGHT", x.partOf(3, 1), 2);
        x.sick(0, 0);
        Due.is("ILL for 0 NIGHTS", x.partOf(3, 1), 1);
    }

    // "have no part of that NIGHT yet"
    private static void noPartYet() {
        TonightCovers x = one(0, 0);
        x.teach(0, 1, 99);
        Due.is("the first part", x.partOf(0, 1), 1);
        Due.is("not the second one too", x.partOf(1, 1), 0);
        x.teach(0, 0, 9);
        Due.is("nor that one without the first", x.partOf(1, 1), 0);
    }

    // "are GOOD as LEAST, or more"
    private static void goodAsLeast() {
        TonightCovers x = one(0, 3);
        for (int least : new int[] {1, 10, 99}) {
            x.set(2, least);
            x.teach(0, 3, least - 1);
            Due.is("less than LEAST " + least, x.of(0, 3), 8);
            x.teach(0, 3, least);
            Due.is("as LEAST " + least, x.of(0, 3), 3);
        }
        x.set(2, 0);
        x.teach(0, 3, 0);
        Due.is("0 as LEAST 0", x.of(0, 3), 0);
    }

    // "whose OWN part this is, or is played already"
    private static void playedAlready() {
        TonightCovers x = new TonightCovers();
        x.player(0, 2);
        x.player(0, 2);
        x.teach(1, 5, 30);
        Due.is("its OWN is played", x.partOf(5, 1), 2);
        x.sick(0, 1);
        x.teach(1, 2, 9);
        Due.is("its OWN is CUT", x.partOf(5, 1), 0);
        x.sick(0, 0);
        Due.is("its OWN is played again", x.partOf(5, 1), 2);
    }

    // "or comes behind this one and is of no more WEIGHT"
    private static void ofNoMoreWeight() {
        TonightCovers x = one(0, 4);
        x.teach(0, 3, 30);
        Due.is("as much WEIGHT", x.of(0, 3), 3);
        x.weigh(4, 4);
        Due.is("1 more", x.of(0, 3), 4);
        x.weigh(3, 5);
        Due.is("1 less", x.of(0, 3), 3);
        x.weigh(4, 0);
        x.weigh(3, 0);
        Due.is("both of no WEIGHT", x.of(0, 3), 3);
    }

    // "A part that nobody plays so is CUT"
    private static void nobodyPlays() {
        TonightCovers x = new TonightCovers();
        Due.is("without PLAYERS all", x.state(3), 255);
        for (int i = 0; i < 8; i++) {
            x.player(0, i);
            Due.is("CUT yet", x.state(3), 255 & -2 << i);
        }
        Due.is("none", x.many(2), 0);
        x.set(2, 99);
        Due.is("where nobody is GOOD as LEAST, all", x.many(2), 8);
    }

    // "SHOW: of all parts that are played WEIGHT times how GOOD the one is, together"
    private static void showOfNothing() {
        TonightCovers x = new TonightCovers();
        Due.is("SHOW of nobody", x.state(2), 0);
        x.player(0, 0);
        x.player(0, 1);
        Due.is("SHOW of two", x.state(2), 360);
        x.weigh(0, 0);
        Due.is("one part without WEIGHT", x.state(2), 180);
        x.weigh(1, 9);
        x.teach(1, 1, 99);
        Due.is("one of 9", x.state(2), 891);
    }

    // "THE BILL is made, by all as it begins; TAKINGS are SHOW more"
    private static void asItBegins() {
        TonightCovers x = one(0, 0);
        x.player(0, 1);
        x.sick(1, 1);
        Due.is("as it begins", x.nights(1), 180);
        Due.is("SHOW of the next one", x.state(2), 3 * 62 + 180);
        x.teach(0, 0, 10);
        Due.is("GOOD as LEAST as it begins", x.nights(1), 180 + 30 + 180);
    }

    // "Of each that plays KNOWS of that part is what it LEARNS more; .. (all held to 0 to 99)"
    private static void learnsHeld() {
        int[][] want = {{0, 96, 98}, {0, 97, 99}, {0, 98, 99}, {0, 99, 99}, {2, 94, 99}, {2, 93, 99}, {2, 92, 98},
            {5, 1, 0}, {5, 0, 0}, {4, 99, 99}, {4, 0, 0}};
        for (int[] row : want) {
            TonightCovers x = one(row[0], 0);
            x.set(2, 0);
            x.teach(0, 0, row[1]);
            x.nights(1);
            Due.is("KIND " + row[0] + " that KNOWS " + row[1], x.knows(0, 0), row[2]);
        }
    }

    // "of each that isn't ILL KNOWS of all other parts is what it FORGETS less (all held to 0 to 99)"
    private static void forgetsHeld() {
        int[][] want = {{0, 2, 1}, {0, 1, 0}, {0, 0, 0}, {2, 3, 1}, {2, 2, 0}, {2, 1, 0}, {5, 1, 0}, {1, 0, 0},
            {1, 99, 99}, {3, 99, 99}, {4, 91, 98}, {4, 92, 99}, {4, 93, 99}, {4, 99, 99}};
        for (int[] row : want) {
            TonightCovers x = one(row[0], 0);
            x.set(1, 9);
            x.teach(0, 7, row[1]);
            x.nights(1);
            Due.is("KIND " + row[0] + " that KNOWS " + row[1], x.knows(0, 7), row[2]);
            Due.is("and it plays its OWN", x.state(3), 254);
        }
        // one that has no part: its OWN is another one, too
        TonightCovers y = one(0, 0);
        y.set(2, 61);
        y.nights(1);
        Due.is("its OWN FORGOTTEN", y.knows(0, 0), 59);
    }

    // "of each that isn't ILL": the last NIGHT of an illness is one, too
    private static void theIllForgetNothing() {
        TonightCovers x = one(0, 0);
        x.teach(0, 7, 50);
        x.sick(0, 1);
        x.nights(1);
        Due.is("KNOWS of another", x.knows(0, 7), 50);
        Due.is("KNOWS of its OWN", x.knows(0, 0), 60);
        x.nights(1);
        Due.is("well, of another", x.knows(0, 7), 49);
        Due.is("well, of its OWN", x.knows(0, 0), 62);
    }

    // "ILL of each is 1 less (0 at least). NIGHT is 1 more."
    private static void illLess() {
        TonightCovers x = new TonightCovers();
        for (int i = 0; i < 3; i++) {
            x.player(0, i);
        }
        x.sick(0, 9);
        x.sick(1, 1);
        x.nights(1);
        Due.is("9", x.of(0, 2), 8);
        Due.is("1", x.of(1, 2), 0);
        Due.is("0", x.of(2, 2), 0);
        Due.is("NIGHT", x.state(0), 1);
        x.nights(60);
        Due.is("0 at least", x.state(4), 0);
        Due.is("NIGHT", x.state(0), 61);
    }
}
