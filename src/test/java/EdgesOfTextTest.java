/** THE TAPE and TEXT of the document: each sentence that names a boundary, its words before its test. */
final class EdgesOfTextTest {
    private static final String[] KINDS = {"player", "cover", "page", "second", "prompter", "star"};
    private static final String[] LAWS = {"help", "book", "least", "throat"};
    private static final int[] LAW_MOST = {9, 9, 99, 99};

    private EdgesOfTextTest() {
    }

    public static void main(String[] args) {
        tapeOf200();
        oneToEightBytes();
        lowestFirst();
        usedUp();
        textOfNothing();
        allByItAlone();
        zStays();
        lastToldCounts();
        asLongAsTheyGo();
        blanksPart();
        oneToThreeDigits();
        numbersOfPlayers();
        numbersOfParts();
        numbersOfLaws();
        otherBytes();
        otherNames();
        aNinthOne();
        endOfAPlayer();
        endOfOthers();
        theFirstFault();
        faultAtTheEndOfAFullTape();
        noRowsThen();
        Due.end();
    }

    private static void answers(String text, int want) {
        Due.told(text, want);
    }

    // a text that is FAULT where the mark stands, which is no part of it
    private static void faultAtMark(String marked) {
        int place = marked.indexOf('#');
        answers(marked.substring(0, place) + marked.substring(place + 1), -100 - place);
    }

    // "THE TAPE takes bytes, 200 at most"; "FULL: more than 200"
    private static void tapeOf200() {
        for (int n = 1; n <= 8; n++) {
            TonightCovers x = new TonightCovers();
            Due.feed(x, " ".repeat(200 - n));
            int refusal = n < 8 ? TonightCovers.FULL : TonightCovers.BAD;
            Due.is("one more than there is room for", x.feed(-1L, n + 1), refusal);
            Due.is("nothing came of it", x.many(5), 200 - n);
            Due.is("as many as there is room for", x.feed(0x2020202020202020L, n), 200);
            Due.is("one more", x.feed(0x20, 1), TonightCovers.FULL);
            Due.is("200", x.many(5), 200);
            Due.is("and blanks alone", x.company(), 0);
        }
    }

    // "n bytes (1 to 8) come to THE TAPE .. BAD; FULL"
    private static void oneToEightBytes() {
        TonightCovers x = new TonightCovers();
        for (int n : new int[] {0, 9, -1, Integer.MIN_VALUE, Integer.MAX_VALUE}) {
            Due.is("feed of " + n, x.feed(0x20, n), TonightCovers.BAD);
        }
        Due.is("1", x.feed(0x20, 1), 1);
        Due.is("8", x.feed(0x2020202020202020L, 8), 9);
        TonightCovers y = new TonightCovers();
        Due.feed(y, " ".repeat(200));
        Due.is("BAD is named first", y.feed(0, 9), TonightCovers.BAD);
    }

    // "the lowest of eight first": those above n do not come
    private static void lowestFirst() {
        TonightCovers x = new TonightCovers();
        // the codes of "throat 9", from the right to the left
        long eight = 0x392074616f726874L;
        Due.is("feed of eight", x.feed(eight, 8), 8);
        Due.is("feed of one of eight", x.feed(0x313233343536373bL, 1), 9);
        Due.is("company()", x.company(), 0);
        Due.is("THROAT", x.lawOf(3), 9);
    }

    // "company() uses it up": also a refused one, and of nothing
    private static void usedUp() {
        TonightCovers x = new TonightCovers();
        Due.feed(x, "help 7;");
        x.company();
        Due.is("used up", x.many(5), 0);
        Due.is("of nothing", x.company(), 0);
        Due.is("HELP is as at first", x.lawOf(0), 3);
        Due.feed(x, "help 7");
        Due.is("refused", x.company(), -106);
        Due.is("used up, too", x.many(5), 0);
        Due.feed(x, ";");
        Due.is("what came before is gone", x.company(), -100);
    }

    // "TEXT: { .. }": none at all
    private static void textOfNothing() {
        answers("", 0);
        answers(" ", 0);
        answers(" ".repeat(200), 0);
        TonightCovers x = Due.told("cover of 3;", 1);
        Due.is("company() of nothing", x.company(), 0);
        Due.is("nobody", x.many(0), 0);
    }

    // "It is all by it alone (what it doesn't tell is as at first)"
    private static void allByItAlone() {
        TonightCovers x = Due.told("star of 7 ill 9;page of 0;part 7 9;help 0;book 0;least 0;throat 0;", 2);
        x.teach(0, 2, 99);
        Due.is("TAKINGS before", x.nights(1), 90);
        Due.feed(x, "star of 6;");
        Due.is("company()", x.company(), 1);
        int[] laws = {3, 4, 10, 20};
        for (int law = 0; law < 4; law++) {
            Due.is("LAW " + law, x.lawOf(law), laws[law]);
        }
        Due.is("WEIGHT", x.partOf(7, 0), 3);
        Due.is("ILL", x.of(0, 2), 0);
        Due.is("KNOWS", x.knows(0, 2), 0);
        Due.is("KNOWS of its OWN", x.knows(0, 6), 60);
        Due.is("NIGHT", x.state(0), 0);
        Due.is("TAKINGS", x.state(1), 0);
    }

    // "z stays"
    private static void zStays() {
        TonightCovers x = new TonightCovers();
        x.seed(-77);
        Due.feed(x, "star of 6;");
        x.company();
        Due.is("z", x.seed(-78), -77);
        Due.feed(x, "star of 6");
        x.company();
        Due.is("z of a refused one", x.seed(1), -78);
    }

    // "part: its WEIGHT. The others: the LAW": told twice
    private static void lastToldCounts() {
        TonightCovers x = Due.told("part 0 9;part 0 0;help 9;help 0;least 0;least 99;", 0);
        Due.is("WEIGHT", x.partOf(0, 0), 0);
        Due.is("HELP", x.lawOf(0), 0);
        Due.is("LEAST", x.lawOf(2), 99);
    }

    // "NAMES are rows of letters a to z, NUMBERS rows of digits (1 to 3), both as long as they go"
    private static void asLongAsTheyGo() {
        answers("player of 3knows 5ill 2;", 1);
        answers("player of3;part0 9;help9;", 1);
        faultAtMark("#playerof 3;");
        faultAtMark("player #ofx 3;");
        faultAtMark("player of 3 #knowsill 3;");
        faultAtMark("player of 3 #illa 3;");
        faultAtMark("part 01#;");
        faultAtMark("#helphelp 3;");
        faultAtMark("help #10;");
        faultAtMark("help 1#a;");
        faultAtMark("#zhelp 1;");
    }

    // "blanks (32) part them, and stand elsewhere as one likes"
    private static void blanksPart() {
        answers("  player  of  3  knows  5  ill  2  ;  part  0  9  ;  ", 1);
        faultAtMark("help 1 #2;");
        faultAtMark("#hel p 1;");
        faultAtMark("help 1; #;");
        for (int sign : new int[] {0, 9, 10, 13, 31, 33, 160, 255}) {
            answers("help" + (char) sign + "1;", -104);
            answers((char) sign + "help 1;", -100);
            answers("help 1;" + (char) sign, -107);
        }
    }

    // "NUMBERS rows of digits (1 to 3)"; "a NUMBER .. of more digits"
    private static void oneToThreeDigits() {
        answers("player of 7 knows 99;", 1);
        answers("player of 007 knows 099;", 1);
        faultAtMark("player of #0007;");
        faultAtMark("player of 7 knows #0000;");
        faultAtMark("player of #4294967296;");
        faultAtMark("player of #18446744073709551616;");
        faultAtMark("part 0 #0000;");
        faultAtMark("least #0000;");
        faultAtMark("least #;");
        faultAtMark("least #-1;");
    }

    // "a NUMBER out of range": of a player
    private static void numbersOfPlayers() {
        for (String kind : KINDS) {
            answers(kind + " of 0 knows 0 ill 0;" + kind + " of 7 knows 99 ill 9;", 2);
            faultAtMark(kind + " of #8;");
            faultAtMark(kind + " of #999;");
            faultAtMark(kind + " of 7 knows #100;");
            faultAtMark(kind + " of 7 knows 99 ill #10;");
            faultAtMark(kind + " of 7 ill #10;");
        }
    }

    // "a NUMBER out of range": of a part, which is one of 0 to 7, and its WEIGHT
    private static void numbersOfParts() {
        for (int part = 0; part < 8; part++) {
            TonightCovers x = Due.told("part " + part + " 9;", 0);
            Due.is("WEIGHT 9", x.partOf(part, 0), 9);
            Due.is("WEIGHT 0", Due.told("part " + part + " 0;", 0).partOf(part, 0), 0);
            faultAtMark("part " + part + " #10;");
        }
        faultAtMark("part #8 0;");
        faultAtMark("part #100 0;");
    }

    // "a NUMBER out of range": of a LAW
    private static void numbersOfLaws() {
        for (int law = 0; law < 4; law++) {
            Due.is("0", Due.told(LAWS[law] + " 0;", 0).lawOf(law), 0);
            Due.is("the most", Due.told(LAWS[law] + " " + LAW_MOST[law] + ";", 0).lawOf(law), LAW_MOST[law]);
            faultAtMark(LAWS[law] + " #" + (LAW_MOST[law] + 1) + ";");
            faultAtMark(LAWS[law] + " #999;");
        }
    }

    // "the first byte of the first .. other byte that can't stand there": none but ; stands anywhere
    private static void otherBytes() {
        for (int sign = 0; sign < 256; sign++) {
            boolean isLetter = sign >= 'a' && sign <= 'z';
            boolean isDigit = sign >= '0' && sign <= '9';
            answers("help 5" + (char) sign + ";", sign == ' ' ? 0 : sign == ';' ? -107 : isDigit ? -105 : -106);
            answers("hel" + (char) sign + " 5;", sign == 'p' ? 0 : -100);
            answers("help " + (char) sign + ";", isDigit ? 0 : sign == ' ' ? -106 : -105);
            answers("help" + (char) sign + "5;", sign == ' ' || sign == '0' ? 0 : isLetter ? -100 : -104);
        }
    }

    // "the first NAME .. that can't stand there"
    private static void otherNames() {
        for (String name : new String[] {"of", "knows", "ill", "kind", "x", "players", "playe", "parts", "par"}) {
            faultAtMark("#" + name + " 1;");
            faultAtMark("help #" + name + " 1;");
            faultAtMark("help 1 #" + name + ";");
            faultAtMark("help 1; #" + name + " 1;");
        }
        for (String name : new String[] {"help", "part", "knows", "ill", "star", "o"}) {
            faultAtMark("player #" + name + " 3;");
            faultAtMark("player of #" + name + " 3;");
        }
        for (String name : new String[] {"help", "part", "of", "star", "know"}) {
            faultAtMark("player of 3 #" + name + " 3;");
            faultAtMark("player of 3 knows 3 #" + name + " 3;");
            faultAtMark("player of 3 ill 3 #" + name + " 3;");
        }
        faultAtMark("player of 3 ill 3 #knows 3;");
        faultAtMark("player of 3 knows 3 #knows 3;");
        faultAtMark("player of 3 ill 3 #ill 3;");
        faultAtMark("player of 3#");
        faultAtMark("player of 3 #help 3;");
    }

    // "the NAME of a ninth one"
    private static void aNinthOne() {
        String eight = "star of 7;".repeat(8);
        answers(eight, 8);
        for (String kind : KINDS) {
            faultAtMark(eight + "#" + kind + " of 0;");
            faultAtMark(eight + " help 1; #" + kind);
            faultAtMark(eight + "#" + kind + " of 9;");
        }
        answers(eight + "part 0 0;help 1;", 8);
    }

    // "or the end (how many bytes there are), if more must come": a player's text, ended behind each of its bytes
    private static void endOfAPlayer() {
        String text = "player of 7 knows 99 ill 9;";
        int[] faults = {-1, 0, 0, 0, 0, 0, 6, 7, 7, 9, 10, 11, 12, 12, 12, 12, 12, 17, 18, 19, 20, 21, 21, 21, 24, 25, 26,
            -1};
        for (int end = 0; end < faults.length; end++) {
            answers(text.substring(0, end), faults[end] < 0 ? end / text.length() : -100 - faults[end]);
            if (faults[end] == end) {
                answers(text.substring(0, end) + "  ", -100 - end - 2);
            }
        }
    }

    // the same of a part and of a LAW
    private static void endOfOthers() {
        String part = "part 3 9;";
        int[] faults = {-1, 0, 0, 0, 4, 5, 6, 7, 8, -1};
        for (int end = 0; end < faults.length; end++) {
            answers(part.substring(0, end), faults[end] < 0 ? 0 : -100 - faults[end]);
        }
        for (String law : LAWS) {
            faultAtMark(law + "#");
            faultAtMark(law + " #");
            faultAtMark(law + " 9#");
            faultAtMark(law + " 9  #");
            answers(law + " 9;", 0);
        }
    }

    // "the first": what comes behind it does not count
    private static void theFirstFault() {
        faultAtMark("player of #8 knows 100 ill 10");
        faultAtMark("part #8 10;");
        faultAtMark("help #10;help 10;x");
        faultAtMark("cover of 1;#x;cover of 8;");
        faultAtMark("player #8;");
        faultAtMark("#8;help");
    }

    // "or the end (how many bytes there are)": 200
    private static void faultAtTheEndOfAFullTape() {
        answers("help 5;".repeat(28) + "help", -300);
        answers(" ".repeat(194) + "help 5", -300);
        answers(" ".repeat(199) + "5", -299);
        answers(" ".repeat(193) + "help 5;", 0);
        answers("part 0 0;".repeat(22) + "  ", 0);
    }

    // "There are no ROWS then": but a refused one changes nothing
    private static void noRowsThen() {
        TonightCovers x = Due.told("player of 3;", 1);
        x.prove(0, 2);
        Due.feed(x, "player of 3");
        Due.is("refused", x.company(), -111);
        Due.is("ROWS", x.many(4), 2);
        Due.is("SHOW of ROW 1", x.row(1, 2), 186);
        Due.is("company() of nothing", x.company(), 0);
        Due.is("no ROWS", x.many(4), 0);
        Due.is("no ROW 0", x.row(0, 0), -9);
    }
}
