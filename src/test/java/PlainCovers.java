import java.math.BigInteger;
import java.util.ArrayList;
import java.util.Arrays;
import java.util.List;
import java.util.regex.Matcher;
import java.util.regex.Pattern;

/** The document once more, written as plainly as the Java library lets one, to be compared with the class. */
final class PlainCovers {
    static final class Fault extends RuntimeException {
        private static final long serialVersionUID = 1;
        final int place;

        Fault(int place) {
            this.place = place;
        }
    }

    static final List<String> KINDS = List.of("player", "cover", "page", "second", "prompter", "star");
    static final List<String> LAWS = List.of("help", "book", "least", "throat");
    static final int[] LAW_MOST = {9, 9, 99, 99};

    static final class Mime {
        int kind;
        int own;
        int ill;
        int[] knows = new int[8];

        Mime copy() {
            Mime other = new Mime();
            other.kind = kind;
            other.own = own;
            other.ill = ill;
            other.knows = knows.clone();
            return other;
        }
    }

    static final class State {
        int[] law = {3, 4, 10, 20};
        int[] weight = {3, 3, 3, 3, 3, 3, 3, 3};
        List<Mime> mimes = new ArrayList<>();
        int night;
        long takings;
        int z = 1;

        State copy() {
            State other = new State();
            other.law = law.clone();
            other.weight = weight.clone();
            for (Mime mime : mimes) {
                other.mimes.add(mime.copy());
            }
            other.night = night;
            other.takings = takings;
            other.z = z;
            return other;
        }

        int good(int m, int part) {
            return good(mimes.get(m).kind, m, part);
        }

        private int good(int kind, int m, int part) {
            Mime mime = mimes.get(m);
            boolean other = mime.own != part;
            switch (KINDS.get(kind)) {
                case "player": return mime.knows[part];
                case "cover": return good(0, m, part) + (other ? law[0] : 0);
                case "second": return good(1, m, part) + (other ? 10 : 0);
                case "page": return good(0, m, part) / 2;
                case "prompter": return good(2, m, part) + law[1] + law[1];
                default: return other ? 0 : good(0, m, part) + 5;
            }
        }

        int learns(int kind) {
            switch (KINDS.get(kind)) {
                case "player": return 2;
                case "cover": return learns(0) + law[0];
                case "second": return learns(1) - 1;
                case "page": return learns(0) + 4;
                case "prompter": return 0;
                default: return learns(0) - 3;
            }
        }

        int forgets(int kind) {
            switch (KINDS.get(kind)) {
                case "player": return 1;
                case "cover": return 0;
                case "second": return forgets(1);
                case "page": return forgets(0) + 1;
                case "prompter": return forgets(2) - law[1];
                default: return 2 * forgets(0);
            }
        }

        /** By parts who plays it; null: it is cut. */
        Integer[] bill() {
            Integer[] bill = new Integer[8];
            for (int part = 0; part < 8; part++) {
                List<Integer> may = new ArrayList<>();
                for (int m = 0; m < mimes.size(); m++) {
                    int own = mimes.get(m).own;
                    boolean free = own == part || (own < part && bill[own] != null)
                        || (own > part && weight[own] <= weight[part]);
                    if (free && mimes.get(m).ill == 0 && !Arrays.asList(bill).contains(m) && good(m, part) >= law[2]) {
                        may.add(m);
                    }
                }
                for (int m : may) {
                    if (bill[part] == null || good(m, part) > good(bill[part], part)) {
                        bill[part] = m;
                    }
                }
            }
            return bill;
        }

        int role(int m) {
            int place = Arrays.asList(bill()).indexOf(m);
            return place < 0 ? 8 : place;
        }

        int show() {
            Integer[] bill = bill();
            int sum = 0;
            for (int part = 0; part < 8; part++) {
                sum += bill[part] == null ? 0 : weight[part] * good(bill[part], part);
            }
            return sum;
        }

        int cut() {
            int set = 0;
            Integer[] bill = bill();
            for (int part = 0; part < 8; part++) {
                set += bill[part] == null ? 1 << part : 0;
            }
            return set;
        }

        int ill() {
            int set = 0;
            for (int m = 0; m < mimes.size(); m++) {
                set += mimes.get(m).ill > 0 ? 1 << m : 0;
            }
            return set;
        }

        int pass(boolean held) {
            int show = show();
            int[] roles = new int[mimes.size()];
            for (int m = 0; m < roles.length; m++) {
                roles[m] = role(m);
            }
            takings += show;
            if (held && takings > 999999) {
                takings = 999999;
            }
            for (int m = 0; m < roles.length; m++) {
                Mime mime = mimes.get(m);
                boolean well = mime.ill == 0;
                for (int part = 0; part < 8; part++) {
                    if (roles[m] == part) {
                        mime.knows[part] = held(mime.knows[part] + learns(mime.kind));
                    } else if (well) {
                        mime.knows[part] = held(mime.knows[part] - forgets(mime.kind));
                    }
                }
                mime.ill = Math.max(0, mime.ill - 1);
            }
            night++;
            return show;
        }

        int draw() {
            z = z * 1103515245 + 12345;
            return z >>> 16;
        }

        void throat() {
            if (mimes.isEmpty()) {
                return;
            }
            Mime mime = mimes.get(draw() % mimes.size());
            if (draw() % 100 < law[3]) {
                mime.ill = Math.max(draw() % 10, mime.ill);
            }
        }

        State behind(int n) {
            State other = copy();
            for (int i = 0; i < n; i++) {
                other.pass(false);
            }
            return other;
        }
    }

    static int held(int v) {
        return v < 0 ? 0 : v > 99 ? 99 : v;
    }

    State now = new State();
    State kept;
    final List<Integer> tape = new ArrayList<>();
    int[][] rows = new int[0][];
    final Object[] sheets = new Object[4];
    final Object[] shelves = new Object[4];
    final List<Integer> trace = new ArrayList<>();

    boolean one(int m) {
        return 0 <= m && m < now.mimes.size();
    }

    static boolean in(int v, int least, int most) {
        return least <= v && v <= most;
    }

    int feed(long eight, int n) {
        if (!in(n, 1, 8)) return -1;
        if (tape.size() + n > 200) return -2;
        for (int i = 0; i < n; i++) {
            tape.add((int) (eight & 255));
            eight >>= 8;
        }
        return tape.size();
    }

    int company() {
        StringBuilder text = new StringBuilder();
        for (int sign : tape) {
            text.append((char) sign);
        }
        tape.clear();
        try {
            State all = new Text(text.toString()).read();
            all.z = now.z;
            now = all;
            rows = new int[0][];
            return now.mimes.size();
        } catch (Fault fault) {
            return -100 - fault.place;
        }
    }

    static final class Text {
        private final List<String> tokens = new ArrayList<>();
        private final List<Integer> places = new ArrayList<>();
        private int next;

        Text(String text) {
            Matcher matcher = Pattern.compile("[a-z]+|[0-9]+|[^ ]", Pattern.DOTALL).matcher(text);
            while (matcher.find()) {
                tokens.add(matcher.group());
                places.add(matcher.start());
            }
            tokens.add("");
            places.add(text.length());
        }

        boolean sees(String token) {
            return tokens.get(next).equals(token);
        }

        Fault fault() {
            return new Fault(places.get(next));
        }

        void pass(String token) {
            if (!sees(token)) throw fault();
            next++;
        }

        int number(int most) {
            String token = tokens.get(next);
            if (!token.matches("[0-9]{1,3}") || Integer.parseInt(token) > most) throw fault();
            next++;
            return Integer.parseInt(token);
        }

        State read() {
            State all = new State();
            while (!sees("")) {
                String token = tokens.get(next);
                if (KINDS.contains(token) && all.mimes.size() < 8) {
                    next++;
                    Mime mime = new Mime();
                    mime.kind = KINDS.indexOf(token);
                    pass("of");
                    mime.own = number(7);
                    mime.knows[mime.own] = 60;
                    if (sees("knows")) {
                        next++;
                        mime.knows[mime.own] = number(99);
                    }
                    if (sees("ill")) {
                        next++;
                        mime.ill = number(9);
                    }
                    all.mimes.add(mime);
                } else if (token.equals("part")) {
                    next++;
                    int part = number(7);
                    all.weight[part] = number(9);
                } else if (LAWS.contains(token)) {
                    next++;
                    int law = LAWS.indexOf(token);
                    all.law[law] = number(LAW_MOST[law]);
                } else {
                    throw fault();
                }
                pass(";");
            }
            return all;
        }
    }

    int set(int law, int v) {
        if (!in(law, 0, 3) || !in(v, 0, LAW_MOST[law])) return -1;
        int was = now.law[law];
        now.law[law] = v;
        return was;
    }

    int lawOf(int law) {
        return in(law, 0, 3) ? now.law[law] : -1;
    }

    int weigh(int part, int v) {
        if (!in(part, 0, 7) || !in(v, 0, 9)) return -1;
        int was = now.weight[part];
        now.weight[part] = v;
        return was;
    }

    int partOf(int part, int what) {
        if (!in(part, 0, 7) || !in(what, 0, 2)) return -1;
        if (what == 0) return now.weight[part];
        if (what == 1) return now.bill()[part] == null ? 0 : now.bill()[part] + 1;
        int set = 0;
        for (int m = 0; m < now.mimes.size(); m++) {
            set += now.mimes.get(m).own == part ? 1 << m : 0;
        }
        return set;
    }

    int player(int kind, int part) {
        if (!in(kind, 0, 5) || !in(part, 0, 7)) return -1;
        if (now.mimes.size() == 8) return -2;
        Mime mime = new Mime();
        mime.kind = kind;
        mime.own = part;
        mime.knows[part] = 60;
        now.mimes.add(mime);
        return now.mimes.size() - 1;
    }

    int of(int m, int what) {
        if (!one(m) || !in(what, 0, 3)) return -1;
        Mime mime = now.mimes.get(m);
        return new int[] {mime.kind, mime.own, mime.ill, now.role(m)}[what];
    }

    int knows(int m, int part) {
        return one(m) && in(part, 0, 7) ? now.mimes.get(m).knows[part] : -1;
    }

    int does(int m, int part, int what) {
        if (!one(m) || !in(part, 0, 7) || !in(what, 0, 2)) return -1;
        int kind = now.mimes.get(m).kind;
        return 1000 + new int[] {now.good(m, part), now.learns(kind), now.forgets(kind)}[what];
    }

    int mind(int m, int kind) {
        if (!one(m) || !in(kind, 0, 5)) return -1;
        int was = now.mimes.get(m).kind;
        now.mimes.get(m).kind = kind;
        return was;
    }

    int teach(int m, int part, int v) {
        if (!one(m) || !in(part, 0, 7) || !in(v, 0, 99)) return -1;
        int was = now.mimes.get(m).knows[part];
        now.mimes.get(m).knows[part] = v;
        return was;
    }

    int sick(int m, int v) {
        if (!one(m) || !in(v, 0, 9)) return -1;
        int was = now.mimes.get(m).ill;
        now.mimes.get(m).ill = v;
        return was;
    }

    int nights(int n) {
        if (!in(n, 1, 60)) return -1;
        for (int i = 0; i < n; i++) {
            now.pass(true);
        }
        return (int) now.takings;
    }

    int seed(int v) {
        int was = now.z;
        now.z = v;
        return was;
    }

    int night() {
        now.throat();
        return now.pass(true);
    }

    int spoilt(int n) {
        if (!in(n, 1, 30)) return -1;
        int z = now.z;
        int count = 0;
        for (int i = 0; i < n; i++) {
            State other = now.copy();
            other.z = z;
            other.throat();
            z = other.z;
            count += other.show() < now.show() ? 1 : 0;
        }
        return count;
    }

    int state(int what) {
        if (!in(what, 0, 5)) return -1;
        int moved = 0;
        for (int m = 0; m < now.mimes.size(); m++) {
            moved += now.role(m) != 8 && now.role(m) != now.mimes.get(m).own ? 1 : 0;
        }
        return new int[] {now.night, (int) now.takings, now.show(), now.cut(), now.ill(), moved}[what];
    }

    int knew(int m, int part, int n) {
        return one(m) && in(part, 0, 7) && in(n, 0, 60) ? now.behind(n).mimes.get(m).knows[part] : -1;
    }

    int earned(int n) {
        return in(n, 0, 60) ? (int) now.behind(n).takings : -1;
    }

    int plays(int m, int part) {
        if (!one(m) || !in(part, 0, 7)) return -1;
        for (int n = 0; n <= 60; n++) {
            if (now.behind(n).role(m) == part) return n;
        }
        return -3;
    }

    int house() {
        for (int n = 0; n <= 60; n++) {
            if (now.behind(n).cut() == 0) return n;
        }
        return -3;
    }

    int worst() {
        int least = now.show();
        int worst = -3;
        for (int m = now.mimes.size() - 1; m >= 0; m--) {
            State other = now.copy();
            if (other.mimes.get(m).ill > 0) continue;
            other.mimes.get(m).ill = 1;
            if (other.show() < now.show() && other.show() <= least) {
                least = other.show();
                worst = m;
            }
        }
        return worst;
    }

    int kindFor(int m, int n) {
        if (!one(m) || !in(n, 1, 30)) return -1;
        long[] taken = new long[6];
        for (int kind = 0; kind < 6; kind++) {
            State other = now.copy();
            other.mimes.get(m).kind = kind;
            taken[kind] = other.behind(n).takings;
        }
        long most = Arrays.stream(taken).max().getAsLong();
        int kind = 0;
        while (taken[kind] != most) {
            kind++;
        }
        return kind;
    }

    int enoughFor(int m, int part) {
        if (!one(m) || !in(part, 0, 7)) return -1;
        for (int v = 0; v < 100; v++) {
            State other = now.copy();
            other.mimes.get(m).knows[part] = v;
            if (other.role(m) == part) return v;
        }
        return -3;
    }

    int learnerFor(int part, int n) {
        if (!in(part, 0, 7) || !in(n, 1, 30)) return -1;
        long most = now.behind(n).takings;
        int best = -3;
        for (int m = 0; m < now.mimes.size(); m++) {
            State other = now.copy();
            other.mimes.get(m).knows[part] = 99;
            long taken = other.behind(n).takings;
            if (taken > most) {
                most = taken;
                best = m;
            }
        }
        return best;
    }

    int fewestFor(int v) {
        if (!in(v, 0, 9999)) return -1;
        for (int many = 0; many <= now.mimes.size(); many++) {
            for (int set = 0; set < 1 << now.mimes.size(); set++) {
                if (Integer.bitCount(set) != many || (set & now.ill()) != 0) continue;
                State other = now.copy();
                for (int m = 0; m < now.mimes.size(); m++) {
                    if ((set & 1 << m) == 0) other.mimes.get(m).ill = 1;
                }
                if (other.show() >= v) return set;
            }
        }
        return -3;
    }

    static long[] numbers(Object row) {
        int n = java.lang.reflect.Array.getLength(row);
        long[] numbers = new long[n];
        for (int i = 0; i < n; i++) {
            numbers[i] = java.lang.reflect.Array.getLong(row, i);
        }
        return numbers;
    }

    int fits(int sheet, int m, int what) {
        if (!in(sheet, 0, 3) || !one(m) || !in(what, 0, 1)) return -1;
        if (sheets[sheet] == null) return -11;
        long[] told = numbers(sheets[sheet]);
        List<Integer> fitting = new ArrayList<>();
        for (int v = 0; v < 100; v++) {
            State other = now.copy();
            other.mimes.get(m).knows[other.mimes.get(m).own] = v;
            boolean fits = true;
            for (int i = 0; i < told.length && fits; i++) {
                long show = other.pass(false);
                fits = told[i] == -1 || told[i] == show;
            }
            if (fits) fitting.add(v);
        }
        return what == 0 ? fitting.size() : fitting.isEmpty() ? -3 : fitting.get(0);
    }

    static long part(BigInteger above, BigInteger below, int part) {
        BigInteger divisor = above.gcd(below);
        return (part == 0 ? above : below).divide(divisor).longValueExact();
    }

    long odds(int n, int k, int part) {
        if (!in(n, 0, 8) || !in(k, 0, n) || !in(part, 0, 1)) return -1;
        // by all the ways that n players may be: each one has a throat, or not
        BigInteger above = BigInteger.ZERO;
        for (int set = 0; set < 1 << n; set++) {
            if (Integer.bitCount(set) == k) {
                BigInteger way = BigInteger.ONE;
                for (int m = 0; m < n; m++) {
                    way = way.multiply(BigInteger.valueOf((set & 1 << m) != 0 ? now.law[3] : 100 - now.law[3]));
                }
                above = above.add(way);
            }
        }
        return part(above, BigInteger.valueOf(100).pow(n), part);
    }

    long hope(int n, int part) {
        if (!in(n, 0, 99) || !in(part, 0, 1)) return -1;
        return part(BigInteger.valueOf(n * now.law[3]), BigInteger.valueOf(100), part);
    }

    int[][] rowsOf(int m, int n) {
        int[][] made = new int[n][];
        for (int i = 0; i < n; i++) {
            State before = now.behind(i);
            State after = now.behind(i + 1);
            made[i] = new int[] {before.role(m), after.mimes.get(m).knows[after.mimes.get(m).own], before.show()};
        }
        return made;
    }

    int prove(int m, int n) {
        if (!one(m) || !in(n, 1, 10)) return -1;
        rows = rowsOf(m, n);
        return n;
    }

    int row(int i, int what) {
        return in(i, 0, rows.length - 1) && in(what, 0, 2) ? rows[i][what] : -9;
    }

    int alterRow(int i, int what, int v) {
        int was = row(i, what);
        if (in(i, 0, rows.length - 1) && in(what, 0, 2)) rows[i][what] = v;
        return was;
    }

    int judge(int m) {
        if (!one(m)) return -1;
        int[][] right = rowsOf(m, rows.length);
        for (int i = 0; i < rows.length; i++) {
            if (!Arrays.equals(rows[i], right[i])) return i + 1;
        }
        return 0;
    }

    int minds(int sheet, int i, int m, int n) {
        if (!in(sheet, 0, 3) || !one(m) || !in(n, 0, 8) || m + n > now.mimes.size()) return -1;
        if (sheets[sheet] == null) return -11;
        if (!(sheets[sheet] instanceof byte[])) return -13;
        byte[] row = (byte[]) sheets[sheet];
        if (!in(i, 0, row.length) || (long) i + n > row.length) return -12;
        for (int k = 0; k < n; k++) {
            Mime mime = now.mimes.get(m + k);
            mime.knows[mime.own] = held(row[i + k]);
        }
        return n;
    }

    int sheet(int sheet, int sort, int n) {
        if (!in(sheet, 0, 3) || !in(sort, -1, 3)) return -1;
        if (sort == -1) {
            sheets[sheet] = null;
            return 1;
        }
        if (n > 40) return -1;
        try {
            sheets[sheet] = sort == 0 ? new byte[n] : sort == 1 ? new short[n] : sort == 2 ? new int[n] : new long[n];
            return 1;
        } catch (NegativeArraySizeException refused) {
            return -14;
        }
    }

    int put(int sheet, int i, int v) {
        if (!in(sheet, 0, 3)) return -1;
        Object row = sheets[sheet];
        try {
            if (row instanceof byte[]) {
                ((byte[]) row)[i] = (byte) v;
            } else if (row instanceof short[]) {
                ((short[]) row)[i] = (short) v;
            } else if (row instanceof int[]) {
                ((int[]) row)[i] = v;
            } else {
                ((long[]) row)[i] = v;
            }
            return 1;
        } catch (NullPointerException refused) {
            return -11;
        } catch (ArrayIndexOutOfBoundsException refused) {
            return -12;
        }
    }

    int item(int sheet, int sort, int i) {
        if (!in(sheet, 0, 3) || !in(sort, 0, 3)) return -1;
        Object row = sheets[sheet];
        try {
            switch (sort) {
                case 0: return ((byte[]) row)[i];
                case 1: return ((short[]) row)[i];
                case 2: return ((int[]) row)[i];
                default: return (int) ((long[]) row)[i];
            }
        } catch (NullPointerException refused) {
            return -11;
        } catch (ClassCastException refused) {
            return -13;
        } catch (ArrayIndexOutOfBoundsException refused) {
            return -12;
        }
    }

    int shelf(int shelf, int what, int n) {
        if (!in(shelf, 0, 3) || !in(what, 0, 2)) return -1;
        if (what == 0 && !one(n)) return -1;
        if (what == 1 && !in(n, 0, 3)) return -1;
        shelves[shelf] = what == 0 ? (Object) Integer.valueOf(n) : what == 1 ? sheets[n] : null;
        return 1;
    }

    Object held0(int shelf) {
        Object held = shelves[shelf];
        return held instanceof Integer && !one((Integer) held) ? null : held;
    }

    int taken(int shelf, int as) {
        if (!in(shelf, 0, 3) || !(in(as, 0, 5) || in(as, 10, 13))) return -1;
        Object held = held0(shelf);
        if (held == null) return -11;
        if (held instanceof Integer) {
            Class<?>[] kinds = {Player.class, Cover.class, Page.class, Second.class, Prompter.class, Star.class};
            return as < 6 && kinds[as].isInstance(thing((Integer) held)) ? (Integer) held : -13;
        }
        Class<?>[] sorts = {byte[].class, short[].class, int[].class, long[].class};
        return as >= 10 && sorts[as - 10].isInstance(held) ? numbers(held).length : -13;
    }

    Player thing(int m) {
        switch (now.mimes.get(m).kind) {
            case 0: return new Player(m, now.mimes.get(m).own);
            case 1: return new Cover(m, now.mimes.get(m).own);
            case 2: return new Page(m, now.mimes.get(m).own);
            case 3: return new Second(m, now.mimes.get(m).own);
            case 4: return new Prompter(m, now.mimes.get(m).own);
            default: return new Star(m, now.mimes.get(m).own);
        }
    }

    class Player {
        final int n;
        final int a;

        Player(int n, int a) {
            this.n = n;
            this.a = a;
        }

        int bows(int x) { trace.add(10); return x * 6 - n; }
        int sings(int x) { trace.add(11); return bows(x) + a * 2; }
        int parts(int x) { trace.add(12); return x / (a - n); }
        int moves(int x) { trace.add(13); return sings(x) ^ 220; }
    }

    class Cover extends Player {
        Cover(int n, int a) { super(n, a); }
        int sings(int x) { trace.add(20); return super.sings(x) * 3; }
    }

    class Page extends Player {
        Page(int n, int a) { super(n, a); }
        int bows(int x) { trace.add(30); return 0 - super.bows(x); }
        int moves(int x) { trace.add(31); return super.moves(x) + parts(n); }
    }

    class Prompter extends Page {
        Prompter(int n, int a) { super(n, a); }
        int bows(int x) { trace.add(40); return super.bows(x) + 5; }
        int sings(int x) { trace.add(41); return super.sings(x) ^ bows(a); }
    }

    class Second extends Cover {
        Second(int n, int a) { super(n, a); }
        int parts(int x) { trace.add(50); return super.parts(x - 7) - a; }
        int bows(int x) { trace.add(51); return super.bows(x) * 2; }
    }

    class Star extends Player {
        Star(int n, int a) { super(n, a); }
        int moves(int x) { trace.add(60); return super.moves(x) - 1; }
        int parts(int x) { trace.add(61); return super.parts(x) * bows(n); }
    }

    int act(int shelf, int act, int x) {
        trace.clear();
        if (!in(shelf, 0, 3) || !in(act, 0, 3) || !(held0(shelf) instanceof Integer)) return 0;
        Player thing = thing((Integer) held0(shelf));
        try {
            switch (act) {
                case 0: return thing.bows(x);
                case 1: return thing.sings(x);
                case 2: return thing.parts(x);
                default: return thing.moves(x);
            }
        } catch (ArithmeticException parted) {
            return -15;
        }
    }

    int trace(int i) {
        return in(i, 0, Math.min(30, trace.size()) - 1) ? trace.get(i) : -3;
    }

    int many(int what) {
        if (!in(what, 0, 6)) return -1;
        int owned = (int) now.mimes.stream().mapToInt(mime -> mime.own).distinct().count();
        return new int[] {now.mimes.size(), Integer.bitCount(now.ill()), Integer.bitCount(now.cut()), owned,
            rows.length, tape.size(), Math.min(30, trace.size())}[what];
    }

    int keep() {
        kept = now.copy();
        return 1;
    }

    int again() {
        if (kept == null) return -3;
        now = kept.copy();
        return now.mimes.size();
    }
}
