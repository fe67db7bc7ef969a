import java.util.Random;

/** Long runs of calls, the class beside the plain one: no answer differs, and nothing is ever thrown. */
final class PlainTest {
    private static final int RUNS = 400;
    private static final int CALLS = 512;

    private final Random random;
    private final TonightCovers x = new TonightCovers();
    private final PlainCovers y = new PlainCovers();
    private final String run;
    private int calls;

    private PlainTest(long seed) {
        random = new Random(seed);
        run = "run " + seed + ", call ";
    }

    public static void main(String[] args) {
        for (int seed = 0; seed < RUNS; seed++) {
            new PlainTest(seed).play();
        }
        Due.end();
    }

    private void play() {
        int ops = random.nextInt(3) == 0 ? 45 : 60;
        while (calls < CALLS) {
            one(random.nextInt(ops));
        }
    }

    private void due(String call, long got, long want) {
        calls++;
        Due.is(run + calls + ": " + call, got, want);
    }

    // mostly one that is there, at times one just outside, seldom any int
    private int any(int least, int most) {
        int way = random.nextInt(40);
        if (way == 0) {
            return random.nextBoolean() ? least - 1 : most + 1;
        }
        if (way == 1) {
            int[] far = {Integer.MIN_VALUE, Integer.MAX_VALUE, -1, 100, random.nextInt(), 255};
            return far[random.nextInt(far.length)];
        }
        return least + random.nextInt(most - least + 1);
    }

    private int player() {
        return any(0, Math.max(0, y.now.mimes.size() - 1));
    }

    private int part() {
        return any(0, 7);
    }

    private void one(int op) {
        if (op < 15) {
            tell(op);
        } else if (op < 30) {
            ask(op);
        } else if (op < 45) {
            shelve(op);
        } else {
            build(op);
        }
    }

    private void tell(int op) {
        int a = player();
        int b = part();
        int c = any(0, 99);
        switch (op) {
            case 0: text(); break;
            case 1: a = any(0, 3); c = any(0, 9); due("set " + a + " " + c, x.set(a, c), y.set(a, c)); break;
            case 2: a = any(0, 3); due("lawOf " + a, x.lawOf(a), y.lawOf(a)); break;
            case 3: c = any(0, 9); due("weigh " + b + " " + c, x.weigh(b, c), y.weigh(b, c)); break;
            case 4: c = any(0, 2); due("partOf " + b + " " + c, x.partOf(b, c), y.partOf(b, c)); break;
            case 5: a = any(0, 5); due("player " + a + " " + b, x.player(a, b), y.player(a, b)); break;
            case 6: c = any(0, 3); due("of " + a + " " + c, x.of(a, c), y.of(a, c)); break;
            case 7: due("knows " + a + " " + b, x.knows(a, b), y.knows(a, b)); break;
            case 8: c = any(0, 2); due("does " + a + " " + b + " " + c, x.does(a, b, c), y.does(a, b, c)); break;
            case 9: c = any(0, 5); due("mind " + a + " " + c, x.mind(a, c), y.mind(a, c)); break;
            case 10: due("teach " + a + " " + b + " " + c, x.teach(a, b, c), y.teach(a, b, c)); break;
            case 11: c = any(0, 3); due("sick " + a + " " + c, x.sick(a, c), y.sick(a, c)); break;
            case 12: c = any(1, random.nextInt(8) == 0 ? 60 : 3); due("nights " + c, x.nights(c), y.nights(c)); break;
            case 13: c = random.nextInt(); due("seed " + c, x.seed(c), y.seed(c)); break;
            default: due("night", x.night(), y.night()); break;
        }
    }

    private void ask(int op) {
        int a = player();
        int b = part();
        int n = any(0, random.nextInt(20) == 0 ? 60 : 9);
        int m = any(1, random.nextInt(20) == 0 ? 30 : 5);
        switch (op) {
            case 15: due("spoilt " + m, x.spoilt(m), y.spoilt(m)); break;
            case 16: n = any(0, 5); due("state " + n, x.state(n), y.state(n)); break;
            case 17: due("knew " + a + " " + b + " " + n, x.knew(a, b, n), y.knew(a, b, n)); break;
            case 18: due("earned " + n, x.earned(n), y.earned(n)); break;
            case 19: if (seldom()) due("plays " + a + " " + b, x.plays(a, b), y.plays(a, b)); break;
            case 20: if (seldom()) due("house", x.house(), y.house()); break;
            case 21: due("worst", x.worst(), y.worst()); break;
            case 22: due("kindFor " + a + " " + m, x.kindFor(a, m), y.kindFor(a, m)); break;
            case 23: if (seldom()) due("enoughFor " + a + " " + b, x.enoughFor(a, b), y.enoughFor(a, b)); break;
            case 24: due("learnerFor " + b + " " + m, x.learnerFor(b, m), y.learnerFor(b, m)); break;
            case 25: if (seldom()) fewest(); break;
            case 26: if (seldom()) fits(); break;
            case 27: odds(); break;
            case 28: n = any(0, 99); b = any(0, 1); due("hope " + n + " " + b, x.hope(n, b), y.hope(n, b)); break;
            default: n = any(0, 6); due("many " + n, x.many(n), y.many(n)); break;
        }
    }

    private boolean seldom() {
        return random.nextInt(6) == 0;
    }

    private void fewest() {
        int v = any(0, random.nextBoolean() ? 9999 : Math.max(1, y.now.show()));
        due("fewestFor " + v, x.fewestFor(v), y.fewestFor(v));
    }

    private void odds() {
        int n = any(0, 8);
        int k = any(0, Math.max(0, Math.min(n, 9)));
        int part = any(0, 1);
        due("odds " + n + " " + k + " " + part, x.odds(n, k, part), y.odds(n, k, part));
    }

    // a sheet of the shows that one number would bring, with some of them told as any
    private void fits() {
        int sheet = any(0, 3);
        int player = player();
        int what = any(0, 1);
        if (sheet >= 0 && sheet < 4 && y.one(player) && random.nextInt(4) > 0) {
            int n = random.nextInt(5);
            int sort = 1 + random.nextInt(3);
            due("sheet " + sheet + " " + sort + " " + n, x.sheet(sheet, sort, n), y.sheet(sheet, sort, n));
            for (int i = 0; i < n; i++) {
                int v = random.nextInt(3) == 0 ? -1 : y.now.behind(i).show();
                due("put " + sheet + " " + i + " " + v, x.put(sheet, i, v), y.put(sheet, i, v));
            }
        }
        due("fits " + sheet + " " + player + " " + what, x.fits(sheet, player, what), y.fits(sheet, player, what));
    }

    private void shelve(int op) {
        int a = player();
        int s = any(0, 3);
        int i = any(0, 9);
        int v = random.nextInt(4) == 0 ? random.nextInt() : any(-2, 120);
        switch (op) {
            case 30: i = any(1, 10); due("prove " + a + " " + i, x.prove(a, i), y.prove(a, i)); break;
            case 31: s = any(0, 2); due("row " + i + " " + s, x.row(i, s), y.row(i, s)); break;
            case 32: if (seldom()) alter(); break;
            case 33: due("judge " + a, x.judge(a), y.judge(a)); break;
            case 34: minds(); break;
            case 35: sheet(); break;
            case 36: i = any(0, 12); due("put " + s + " " + i + " " + v, x.put(s, i, v), y.put(s, i, v)); break;
            case 37: v = any(0, 3); due("item " + s + " " + v + " " + i, x.item(s, v, i), y.item(s, v, i)); break;
            case 38: shelf(); break;
            case 39: taken(); break;
            case 40: v = any(0, 3); act(s, v); break;
            case 41: i = any(0, 30); due("trace " + i, x.trace(i), y.trace(i)); break;
            case 42: if (seldom()) due("keep", x.keep(), y.keep()); break;
            case 43: if (seldom()) due("again", x.again(), y.again()); break;
            default: v = any(0, 6); due("many " + v, x.many(v), y.many(v)); break;
        }
    }

    private void alter() {
        int i = any(0, 9);
        int what = any(0, 2);
        int v = any(0, 9);
        due("alterRow " + i + " " + what + " " + v, x.alterRow(i, what, v), y.alterRow(i, what, v));
    }

    private void minds() {
        int s = any(0, 3);
        int i = any(0, 5);
        int a = player();
        int n = any(0, 3);
        due("minds " + s + " " + i + " " + a + " " + n, x.minds(s, i, a, n), y.minds(s, i, a, n));
    }

    private void sheet() {
        int s = any(0, 3);
        int sort = random.nextBoolean() ? 0 : any(-1, 3);
        int n = any(-1, 40);
        due("sheet " + s + " " + sort + " " + n, x.sheet(s, sort, n), y.sheet(s, sort, n));
    }

    private void shelf() {
        int s = any(0, 3);
        int what = random.nextBoolean() ? 0 : any(0, 2);
        int n = what == 0 ? player() : any(0, 3);
        due("shelf " + s + " " + what + " " + n, x.shelf(s, what, n), y.shelf(s, what, n));
    }

    private void taken() {
        int s = any(0, 3);
        int as = random.nextBoolean() ? any(0, 5) : any(10, 13);
        due("taken " + s + " " + as, x.taken(s, as), y.taken(s, as));
    }

    private void act(int shelf, int act) {
        int v = random.nextBoolean() ? random.nextInt() : any(-20, 20);
        due("act " + shelf + " " + act + " " + v, x.act(shelf, act, v), y.act(shelf, act, v));
        due("many(6)", x.many(6), y.many(6));
        for (int i = 0; i <= y.trace.size(); i++) {
            due("trace " + i, x.trace(i), y.trace(i));
        }
    }

    // what makes a company that there is something to tell of
    private void build(int op) {
        int a = player();
        int b = part();
        switch (op % 5) {
            case 0:
                int kind = any(0, 5);
                due("player " + kind + " " + b, x.player(kind, b), y.player(kind, b));
                break;
            case 1:
            case 2:
                int v = any(20, 99);
                due("teach " + a + " " + b + " " + v, x.teach(a, b, v), y.teach(a, b, v));
                break;
            case 3:
                int w = any(1, 9);
                due("weigh " + b + " " + w, x.weigh(b, w), y.weigh(b, w));
                break;
            default:
                due("state 2", x.state(2), y.state(2));
                due("state 3", x.state(3), y.state(3));
                due("state 5", x.state(5), y.state(5));
                due("sick " + a, x.sick(a, 0), y.sick(a, 0));
                break;
        }
    }

    // a text of clauses, at times with a sign more, less or other
    private void text() {
        if (random.nextInt(3) > 0) {
            return;
        }
        StringBuilder text = new StringBuilder();
        int clauses = random.nextInt(12);
        for (int i = 0; i < clauses; i++) {
            text.append(clause());
        }
        if (random.nextInt(3) == 0 && text.length() > 0) {
            spoil(text);
        }
        for (int from = 0; from < text.length(); from += 8) {
            int n = Math.min(8, text.length() - from);
            long eight = random.nextInt(2) * -1L;
            for (int i = n - 1; i >= 0; i--) {
                eight = eight << 8 | text.charAt(from + i);
            }
            due("feed " + eight + " " + n, x.feed(eight, n), y.feed(eight, n));
        }
        due("company of " + text, x.company(), y.company());
    }

    private String clause() {
        switch (random.nextInt(8)) {
            case 0: return "part " + any(0, 7) + "  " + any(0, 9) + ";";
            case 1: return PlainCovers.LAWS.get(random.nextInt(2)) + " " + any(0, 9) + " ;";
            case 2: return " " + PlainCovers.LAWS.get(2 + random.nextInt(2)) + " " + any(0, 99) + ";";
            default: return PlainCovers.KINDS.get(random.nextInt(6)) + " of " + any(0, 7)
                + (random.nextBoolean() ? " knows " + any(0, 99) : "")
                + (random.nextInt(4) == 0 ? " ill " + any(0, 9) : "") + ";";
        }
    }

    private void spoil(StringBuilder text) {
        int at = random.nextInt(text.length());
        String signs = " ;09az-A\u00e9\u00ff";
        switch (random.nextInt(3)) {
            case 0: text.deleteCharAt(at); break;
            case 1: text.insert(at, signs.charAt(random.nextInt(signs.length()))); break;
            default: text.setCharAt(at, signs.charAt(random.nextInt(signs.length()))); break;
        }
    }
}
