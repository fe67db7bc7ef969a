/** Promises 2 and 3: THE TAPE and the company told in a TEXT. */
final class TextTest {
    private static final String EIGHT = "page of 0;".repeat(8);

    private TextTest() {
    }

    public static void main(String[] args) {
        tape();
        bytesOfALong();
        texts();
        faultsOfPlayers();
        faultsOfOthers();
        theNinth();
        fullTape();
        whatIsTold();
        allByItAlone();
        nothingOfTheFormerOnes();
        refusedChangesNothing();
        Due.end();
    }

    private static void tape() {
        TonightCovers x = new TonightCovers();
        Due.is("feed of 0 bytes", x.feed(1, 0), TonightCovers.BAD);
        Due.is("feed of 9 bytes", x.feed(1, 9), TonightCovers.BAD);
        Due.is("feed of -1 bytes", x.feed(1, -1), TonightCovers.BAD);
        Due.is("nothing came", x.many(5), 0);
        for (int i = 1; i <= 24; i++) {
            Due.is("feed of 8 bytes", x.feed(0x2020202020202020L, 8), 8 * i);
        }
        Due.is("feed of 1 byte", x.feed(0x20, 1), 193);
        Due.is("feed of 8 bytes, one too many", x.feed(0x20, 8), TonightCovers.FULL);
        Due.is("nothing of them came", x.many(5), 193);
        Due.is("feed of 7 bytes", x.feed(0x20202020202020L, 7), 200);
        Due.is("feed of 1 byte too many", x.feed(0x20, 1), TonightCovers.FULL);
        Due.is("BAD is named before FULL", x.feed(0x20, 9), TonightCovers.BAD);
        Due.is("blanks alone", x.company(), 0);
        Due.is("THE TAPE is used up", x.many(5), 0);
        Due.is("and takes bytes again", x.feed(0x20, 1), 1);
    }

    private static void bytesOfALong() {
        TonightCovers x = new TonightCovers();
        // "help", " 7;" with the lowest byte first; what stands above n bytes does not come
        Due.is("help", x.feed(0x7f7f7f7f706c6568L, 4), 4);
        Due.is(" 7;", x.feed(0xffffffffff3b3720L, 3), 7);
        Due.is("company()", x.company(), 0);
        Due.is("HELP", x.lawOf(0), 7);
        Due.is("a byte above 127", x.feed(-1L, 8), 8);
        Due.is("is none of a text", x.company(), -100);
    }

    private static void answers(String text, int want) {
        Due.told(text, want);
    }

    private static void texts() {
        answers("", 0);
        answers("   ", 0);
        answers("player of 0;", 1);
        answers("  player   of  0  knows  5  ill  2  ;  ", 1);
        answers("player of 0;cover of 1;page of 2;second of 3;prompter of 4;star of 5;", 6);
        answers("player of 0 ill 9;player of 0 knows 0;", 2);
        answers("player of 007 knows 099 ill 009;", 1);
        answers("part 7 9;help 9;book 9;least 99;throat 99;", 0);
        answers("part 0 0;help 0;book 0;least 0;throat 0;", 0);
        // a NAME goes as long as there are letters, a NUMBER as long as there are digits
        answers("player of0knows5ill2;part0 9;help3;", 1);
    }

    private static void faultsOfPlayers() {
        answers("player of 8;", -110);
        answers("player of 0000;", -110);
        answers("player of 99999999999999999999;", -110);
        answers("player of 0 knows 100;", -118);
        answers("player of 0 ill 10;", -116);
        answers("player of 0 ill 3 knows 5;", -118);
        answers("player of 0 knows 5 knows 6;", -120);
        answers("player of 0 ill 3 ill 3;", -118);
        answers("player of 0", -111);
        answers("player of 0  ", -113);
        answers("player", -106);
        answers("player of ", -110);
        answers("player of 0 knows", -117);
        answers("player of 0 knows;", -117);
        answers("player 0;", -107);
        answers("player of x;", -110);
        answers("player of 0 part 0 3;", -112);
        answers("player of 0 know 3;", -112);
        answers("player of 0 knowss 3;", -112);
        answers("player of 0 1;", -112);
        answers("player off 0;", -107);
        answers("cover of 0;player of -1;", -121);
    }

    private static void faultsOfOthers() {
        answers(";", -100);
        answers(" ;", -101);
        answers("7;", -100);
        answers("player of 0;;", -112);
        answers("playe of 0;", -100);
        answers("players of 0;", -100);
        answers("Player of 0;", -100);
        answers("knows 5;", -100);
        answers("of 0;", -100);
        answers("ill 0;", -100);
        answers("part 8 3;", -105);
        answers("part 0 10;", -107);
        answers("part 0;", -106);
        answers("part 0", -106);
        answers("part 01;", -107);
        answers("part 0 1 2;", -109);
        answers("help 10;", -105);
        answers("book 10;", -105);
        answers("least 100;", -106);
        answers("throat 100;", -107);
        answers("help;", -104);
        answers("help", -104);
        answers("help 5 5;", -107);
        answers("help 5", -106);
        answers("help 5,", -106);
        answers("help 5;\t", -107);
        answers("help 5;\u00e9", -107);
        answers("help 5;\u0000", -107);
        answers("h", -100);
        answers("helpa 5;", -100);
        answers("helpz 5;", -100);
        answers("help 5a;", -106);
    }

    private static void theNinth() {
        answers(EIGHT, 8);
        answers(EIGHT + "page of 0;", -180);
        answers(EIGHT + " page", -181);
        answers(EIGHT + "pag", -180);
        answers(EIGHT + "help 1;part 0 0;", 8);
    }

    private static void fullTape() {
        answers("help 5;".repeat(28) + "    ", 0);
        answers("help 5;".repeat(28) + "help", -300);
        answers("help 5;".repeat(28) + "    ".substring(1) + "h", -299);
    }

    private static void whatIsTold() {
        TonightCovers x = Due.told("star of 5 ill 4; page of 5 knows 7; part 5 1; part 2 8; part 5 2;"
            + "help 1; book 2; least 33; throat 44; help 6;", 2);
        int[] laws = {6, 2, 33, 44};
        for (int law = 0; law < 4; law++) {
            Due.is("LAW " + law, x.lawOf(law), laws[law]);
        }
        Due.is("weight told twice", x.partOf(5, 0), 2);
        Due.is("weight told", x.partOf(2, 0), 8);
        Due.is("weight not told", x.partOf(0, 0), 3);
        Due.is("KIND", x.of(0, 0), 5);
        Due.is("ILL", x.of(0, 2), 4);
        Due.is("KNOWS not told", x.knows(0, 5), 60);
        Due.is("KIND of the other", x.of(1, 0), 2);
        Due.is("OWN of the other", x.of(1, 1), 5);
        Due.is("ILL of the other", x.of(1, 2), 0);
        Due.is("KNOWS of the other", x.knows(1, 5), 7);
        Due.is("KNOWS of another part", x.knows(1, 4), 0);
    }

    private static void allByItAlone() {
        TonightCovers x = Due.told("second of 3 ill 7;second of 2;", 2);
        x.seed(77);
        x.keep();
        x.set(0, 9);
        x.weigh(6, 9);
        x.teach(0, 1, 44);
        x.nights(3);
        x.prove(0, 4);
        x.sheet(1, 0, 3);
        x.shelf(2, 0, 1);
        x.act(2, 0, 0);
        x.seed(78);
        Due.feed(x, "player of 0;player of 4;");
        Due.is("company()", x.company(), 2);
        Due.is("HELP is as at first", x.lawOf(0), 3);
        Due.is("a weight is as at first", x.partOf(6, 0), 3);
        Due.is("NIGHT is as at first", x.state(0), 0);
        Due.is("TAKINGS are as at first", x.state(1), 0);
        Due.is("ILL is as at first", x.state(4), 0);
        Due.is("KNOWS is as at first", x.knows(0, 1), 0);
        Due.is("there are no ROWS", x.many(4), 0);
        Due.is("the SHEET is there", x.item(1, 0, 2), 0);
        Due.is("the SHELF holds its number", x.taken(2, 0), 1);
        Due.is("THE TRACE is there", x.trace(0), 51);
        Due.is("z stays", x.seed(1), 78);
        Due.is("what is kept stays", x.again(), 2);
        Due.is("as it was kept", x.of(0, 0), 3);
    }

    private static void nothingOfTheFormerOnes() {
        TonightCovers x = Due.told("page of 0 ill 5;page of 1 ill 6;", 2);
        x.teach(1, 4, 44);
        x.prove(1, 1);
        Due.feed(x, "player of 0;");
        Due.is("company()", x.company(), 1);
        Due.is("player(0, 1)", x.player(0, 1), 1);
        Due.is("ILL of the new one", x.of(1, 2), 0);
        Due.is("KNOWS of the new one", x.knows(1, 4), 0);
    }

    private static void refusedChangesNothing() {
        TonightCovers x = Due.told("second of 3 ill 7;help 8;", 1);
        x.prove(0, 4);
        Due.feed(x, "page of 1;page of 1;help 1;part 3 3;least 4");
        Due.is("company()", x.company(), -143);
        Due.is("THE TAPE is used up", x.many(5), 0);
        Due.is("PLAYERS", x.many(0), 1);
        Due.is("KIND", x.of(0, 0), 3);
        Due.is("ILL", x.of(0, 2), 7);
        Due.is("HELP", x.lawOf(0), 8);
        Due.is("ROWS", x.many(4), 4);
    }
}
