/** Who plays what tonight, and what comes of it. Words in capitals in the comments are those of DOC.md. */
public final class TonightCovers {
    public static final int BAD = -1, FULL = -2, NONE = -3;

    // what the host refuses
    private static final int NOTHING = -11, OUTSIDE = -12, OTHER_SORT = -13, BELOW_0 = -14, BY_0 = -15;
    private static final int NO_ROW = -9;
    private static final int BEFORE_FAULT = -100;
    private static final int GOOD_BASE = 1000;

    private static final int PARTS = 8;
    private static final int MOST_PLAYERS = 8;

    private static final int PLAYER = 0, COVER = 1, PAGE = 2, SECOND = 3, PROMPTER = 4, STAR = 5;
    private static final int KINDS = 6;
    // by KIND: the one that it is under; PLAYER is under none
    private static final int[] KIND_ABOVE = {NONE, PLAYER, PLAYER, COVER, PAGE, PLAYER};

    private static final int HELP = 0, BOOK = 1, LEAST = 2, THROAT = 3;
    private static final int LAWS = 4;
    private static final int[] LAW_AT_FIRST = {3, 4, 10, 20};
    private static final int[] LAW_MOST = {9, 9, 99, 99};
    private static final int WEIGHT_MOST = 9, KNOWS_MOST = 99, ILL_MOST = 9;

    private static final int BYTES = 0, SORTS = 4, MISSING = -1;
    private static final int SHEETS = 4, SHELVES = 4;
    private static final int MOST_ROWS = 10, ROW_WIDTH = 3;
    private static final int ROW_KIND = 10;

    // what a SHELF holds
    private static final int EMPTY = 0, ONE = 1, ROW = 2;

    private final Company now = new Company();
    private final Company tried = new Company();
    private final Company kept = new Company();
    private boolean isKept;
    private final Trials trials = new Trials(now, tried);
    private final Tape tape = new Tape();

    private final int[] rows = new int[MOST_ROWS * ROW_WIDTH];
    private final int[] rightRows = new int[MOST_ROWS * ROW_WIDTH];
    private int rowCount;

    private final Sheet[] sheets = {new Sheet(), new Sheet(), new Sheet(), new Sheet()};
    // A shelf notes of a row its sort and how many items it has: neither changes, also when the SHEET gets another row.
    private final int[] shelfHolds = new int[SHELVES];
    private final int[] shelfNumber = new int[SHELVES];
    private final int[] shelfSort = new int[SHELVES];

    private final Trace log = new Trace();
    // by KIND
    private final Player[] things = {new Player(log), new Cover(log), new Page(log), new Second(log),
            new Prompter(log), new Star(log)};

    public TonightCovers() {
    }

    // ---- what is told of the company

    public int feed(long eight, int n) {
        if (n < 1 || n > 8) {
            return BAD;
        }
        return tape.append(eight, n) ? tape.length : FULL;
    }

    public int company() {
        int fault = tape.tell(tried);
        tape.length = 0;
        if (fault != Tape.NO_FAULT) {
            return BEFORE_FAULT - fault;
        }
        tried.z = now.z;
        now.copyFrom(tried);
        rowCount = 0;
        return now.players;
    }

    public int set(int law, int v) {
        if (!isLaw(law) || v < 0 || v > LAW_MOST[law]) {
            return BAD;
        }
        int was = now.laws[law];
        now.laws[law] = v;
        return was;
    }

    public int lawOf(int law) {
        return isLaw(law) ? now.laws[law] : BAD;
    }

    public int weigh(int part, int v) {
        if (!isPart(part) || v < 0 || v > WEIGHT_MOST) {
            return BAD;
        }
        int was = now.weight[part];
        now.weight[part] = v;
        return was;
    }

    public int partOf(int part, int what) {
        if (!isPart(part)) {
            return BAD;
        }
        switch (what) {
            case 0:
                return now.weight[part];
            case 1:
                now.makeBill();
                return now.cast[part] == Company.NOBODY ? 0 : 1 + now.cast[part];
            case 2:
                return now.ownersOf(part);
            default:
                return BAD;
        }
    }

    public int player(int kind, int part) {
        if (!isKind(kind) || !isPart(part)) {
            return BAD;
        }
        return now.players < MOST_PLAYERS ? now.join(kind, part) : FULL;
    }

    public int of(int player, int what) {
        if (!isPlayer(player)) {
            return BAD;
        }
        switch (what) {
            case 0:
                return now.kind[player];
            case 1:
                return now.own[player];
            case 2:
                return now.ill[player];
            case 3:
                now.makeBill();
                return now.role[player];
            default:
                return BAD;
        }
    }

    public int knows(int player, int part) {
        return isPlayer(player) && isPart(part) ? now.knowing(player, part) : BAD;
    }

    public int does(int player, int part, int what) {
        if (!isPlayer(player) || !isPart(part)) {
            return BAD;
        }
        switch (what) {
            case 0:
                return GOOD_BASE + now.good(player, part);
            case 1:
                return GOOD_BASE + now.learns(player);
            case 2:
                return GOOD_BASE + now.forgets(player);
            default:
                return BAD;
        }
    }

    public int mind(int player, int kind) {
        if (!isPlayer(player) || !isKind(kind)) {
            return BAD;
        }
        int was = now.kind[player];
        now.kind[player] = kind;
        return was;
    }

    public int teach(int player, int part, int v) {
        if (!isPlayer(player) || !isPart(part) || v < 0 || v > KNOWS_MOST) {
            return BAD;
        }
        int was = now.knowing(player, part);
        now.learnTo(player, part, v);
        return was;
    }

    public int sick(int player, int v) {
        if (!isPlayer(player) || v < 0 || v > ILL_MOST) {
            return BAD;
        }
        int was = now.ill[player];
        now.ill[player] = v;
        return was;
    }

    // ---- nights

    public int nights(int n) {
        if (n < 1 || n > 60) {
            return BAD;
        }
        for (int i = 0; i < n; i++) {
            now.playNight();
        }
        return now.takings;
    }

    public int seed(int v) {
        int was = now.z;
        now.z = v;
        return was;
    }

    public int night() {
        now.drawThroat();
        return now.playNight();
    }

    public int spoilt(int n) {
        return n >= 1 && n <= 30 ? trials.spoiltOf(n) : BAD;
    }

    public int state(int what) {
        now.makeBill();
        switch (what) {
            case 0:
                return now.nightsPlayed;
            case 1:
                return now.takings;
            case 2:
                return now.show();
            case 3:
                return now.cutParts();
            case 4:
                return now.illPlayers();
            case 5:
                return now.moved();
            default:
                return BAD;
        }
    }

    // ---- what is tried

    public int knew(int player, int part, int n) {
        if (!isPlayer(player) || !isPart(part) || n < 0 || n > 60) {
            return BAD;
        }
        return trials.knowingBehind(player, part, n);
    }

    public int earned(int n) {
        return n >= 0 && n <= 60 ? trials.takenBehind(n) : BAD;
    }

    public int plays(int player, int part) {
        return isPlayer(player) && isPart(part) ? trials.firstOnBill(player, part) : BAD;
    }

    public int house() {
        return trials.firstFullHouse();
    }

    public int worst() {
        return trials.worstIllness();
    }

    public int kindFor(int player, int n) {
        return isPlayer(player) && n >= 1 && n <= 30 ? trials.bestKind(player, n) : BAD;
    }

    public int enoughFor(int player, int part) {
        return isPlayer(player) && isPart(part) ? trials.leastKnowing(player, part) : BAD;
    }

    public int learnerFor(int part, int n) {
        return isPart(part) && n >= 1 && n <= 30 ? trials.bestLearner(part, n) : BAD;
    }

    public int fewestFor(int v) {
        return v >= 0 && v <= 9999 ? trials.fewestWell(v) : BAD;
    }

    public int fits(int sheet, int player, int what) {
        if (!isSheet(sheet) || !isPlayer(player) || what < 0 || what > 1) {
            return BAD;
        }
        if (sheets[sheet].sort == MISSING) {
            return NOTHING;
        }
        return what == 0 ? trials.howManyFit(sheets[sheet], player) : trials.leastThatFits(sheets[sheet], player);
    }

    public long odds(int n, int k, int part) {
        if (n < 0 || n > 8 || k < 0 || k > n || part < 0 || part > 1) {
            return BAD;
        }
        long throat = now.laws[THROAT];
        long above = waysToChoose(n, k) * power(throat, k) * power(100 - throat, n - k);
        return partOfFraction(above, power(100, n), part);
    }

    public long hope(int n, int part) {
        if (n < 0 || n > 99 || part < 0 || part > 1) {
            return BAD;
        }
        return partOfFraction((long) n * now.laws[THROAT], 100, part);
    }

    // ---- rows of nights

    public int prove(int player, int n) {
        if (!isPlayer(player) || n < 1 || n > MOST_ROWS) {
            return BAD;
        }
        trials.makeRows(player, n, rows);
        rowCount = n;
        return n;
    }

    public int row(int i, int what) {
        return isRowCell(i, what) ? rows[i * ROW_WIDTH + what] : NO_ROW;
    }

    public int alterRow(int i, int what, int v) {
        if (!isRowCell(i, what)) {
            return NO_ROW;
        }
        int was = rows[i * ROW_WIDTH + what];
        rows[i * ROW_WIDTH + what] = v;
        return was;
    }

    public int judge(int player) {
        if (!isPlayer(player)) {
            return BAD;
        }
        trials.makeRows(player, rowCount, rightRows);
        for (int cell = 0; cell < rowCount * ROW_WIDTH; cell++) {
            if (rows[cell] != rightRows[cell]) {
                return cell / ROW_WIDTH + 1;
            }
        }
        return 0;
    }

    // ---- sheets and shelves

    public int minds(int sheet, int i, int player, int n) {
        if (!isSheet(sheet) || !isPlayer(player) || n < 0 || n > 8 || n > now.players - player) {
            return BAD;
        }
        Sheet from = sheets[sheet];
        if (from.sort == MISSING) {
            return NOTHING;
        }
        if (from.sort != BYTES) {
            return OTHER_SORT;
        }
        if (i < 0 || i > from.size || n > from.size - i) {
            return OUTSIDE;
        }
        for (int k = 0; k < n; k++) {
            now.learnTo(player + k, now.own[player + k], from.items[i + k]);
        }
        return n;
    }

    public int sheet(int sheet, int sort, int n) {
        if (!isSheet(sheet) || sort < MISSING || sort >= SORTS) {
            return BAD;
        }
        if (sort != MISSING && n > Sheet.MOST) {
            return BAD;
        }
        if (sort != MISSING && n < 0) {
            return BELOW_0;
        }
        sheets[sheet].become(sort, sort == MISSING ? 0 : n);
        return 1;
    }

    public int put(int sheet, int i, int v) {
        if (!isSheet(sheet)) {
            return BAD;
        }
        Sheet to = sheets[sheet];
        if (to.sort == MISSING) {
            return NOTHING;
        }
        if (i < 0 || i >= to.size) {
            return OUTSIDE;
        }
        to.items[i] = to.narrowed(v);
        return 1;
    }

    public int item(int sheet, int sort, int i) {
        if (!isSheet(sheet) || sort < 0 || sort >= SORTS) {
            return BAD;
        }
        Sheet from = sheets[sheet];
        if (from.sort == MISSING) {
            return NOTHING;
        }
        if (from.sort != sort) {
            return OTHER_SORT;
        }
        return i >= 0 && i < from.size ? from.items[i] : OUTSIDE;
    }

    public int shelf(int shelf, int what, int n) {
        if (!isShelf(shelf)) {
            return BAD;
        }
        switch (what) {
            case 0:
                return isPlayer(n) ? shelve(shelf, ONE, n, 0) : BAD;
            case 1:
                if (!isSheet(n)) {
                    return BAD;
                }
                Sheet from = sheets[n];
                return shelve(shelf, from.sort == MISSING ? EMPTY : ROW, from.size, from.sort);
            case 2:
                return shelve(shelf, EMPTY, 0, 0);
            default:
                return BAD;
        }
    }

    public int taken(int shelf, int as) {
        boolean asRow = as >= ROW_KIND && as < ROW_KIND + SORTS;
        if (!isShelf(shelf) || (!isKind(as) && !asRow)) {
            return BAD;
        }
        if (holdsNothing(shelf)) {
            return NOTHING;
        }
        int number = shelfNumber[shelf];
        if (shelfHolds[shelf] == ROW) {
            return asRow && shelfSort[shelf] == as - ROW_KIND ? number : OTHER_SORT;
        }
        return !asRow && isOfKind(now.kind[number], as) ? number : OTHER_SORT;
    }

    public int act(int shelf, int act, int x) {
        log.clear();
        if (!isShelf(shelf) || act < 0 || act > 3 || holdsNothing(shelf) || shelfHolds[shelf] == ROW) {
            return 0;
        }
        int number = shelfNumber[shelf];
        Player thing = things[now.kind[number]];
        thing.hold(number, now.own[number]);
        int answer = 0;
        switch (act) {
            case 0:
                answer = thing.bows(x);
                break;
            case 1:
                answer = thing.sings(x);
                break;
            case 2:
                answer = thing.parts(x);
                break;
            default:
                answer = thing.moves(x);
                break;
        }
        return log.partedBy0 ? BY_0 : answer;
    }

    public int trace(int i) {
        return i >= 0 && i < log.count ? log.bodies[i] : NONE;
    }

    // ---- counts, and what is kept

    public int many(int what) {
        switch (what) {
            case 0:
                return now.players;
            case 1:
                return Integer.bitCount(now.illPlayers());
            case 2:
                now.makeBill();
                return Integer.bitCount(now.cutParts());
            case 3:
                return now.partsOwned();
            case 4:
                return rowCount;
            case 5:
                return tape.length;
            case 6:
                return log.count;
            default:
                return BAD;
        }
    }

    public int keep() {
        kept.copyFrom(now);
        isKept = true;
        return 1;
    }

    public int again() {
        if (!isKept) {
            return NONE;
        }
        now.copyFrom(kept);
        return now.players;
    }

    // ---- what there is

    private static boolean isLaw(int law) {
        return law >= 0 && law < LAWS;
    }

    private static boolean isPart(int part) {
        return part >= 0 && part < PARTS;
    }

    private static boolean isKind(int kind) {
        return kind >= 0 && kind < KINDS;
    }

    private static boolean isSheet(int sheet) {
        return sheet >= 0 && sheet < SHEETS;
    }

    private static boolean isShelf(int shelf) {
        return shelf >= 0 && shelf < SHELVES;
    }

    private boolean isPlayer(int player) {
        return player >= 0 && player < now.players;
    }

    private boolean isRowCell(int i, int what) {
        return i >= 0 && i < rowCount && what >= 0 && what < ROW_WIDTH;
    }

    private int shelve(int shelf, int holds, int number, int sort) {
        shelfHolds[shelf] = holds;
        shelfNumber[shelf] = number;
        shelfSort[shelf] = sort;
        return 1;
    }

    // A player is held by its number: the company may have become smaller since.
    private boolean holdsNothing(int shelf) {
        return shelfHolds[shelf] == EMPTY || (shelfHolds[shelf] == ONE && !isPlayer(shelfNumber[shelf]));
    }

    private static boolean isOfKind(int kind, int as) {
        int above = kind;
        for (int i = 0; i < KINDS && isKind(above); i++) {
            if (above == as) {
                return true;
            }
            above = KIND_ABOVE[above];
        }
        return false;
    }

    // ---- fractions

    private static long power(long base, int times) {
        long product = 1;
        for (int i = 0; i < times; i++) {
            product *= base;
        }
        return product;
    }

    private static long waysToChoose(int n, int k) {
        long ways = 1;
        for (int i = 0; i < k; i++) {
            ways = ways * (n - i) / (i + 1);
        }
        return ways;
    }

    // below is above 0
    private static long partOfFraction(long above, long below, int part) {
        long divisor = below;
        long rest = above;
        // Euclid's steps at least halve the rest every second time: 126 are enough for any long
        for (int i = 0; i < 126 && rest != 0; i++) {
            long next = divisor % rest;
            divisor = rest;
            rest = next;
        }
        if (divisor == 0) {
            return BAD;
        }
        return part == 0 ? above / divisor : below / divisor;
    }

    private static int heldTo(int v, int most) {
        if (v < 0) {
            return 0;
        }
        return v > most ? most : v;
    }

    /** A company: LAWS, PARTS, PLAYERS, how far the NIGHTS are, and z; and THE BILL that was made of it latest. */
    private static final class Company {
        static final int NOBODY = -1;
        static final int NO_PART = 8;
        static final int TAKINGS_MOST = 999999;

        final int[] laws = new int[LAWS];
        final int[] weight = new int[PARTS];
        final int[] kind = new int[MOST_PLAYERS];
        final int[] own = new int[MOST_PLAYERS];
        final int[] ill = new int[MOST_PLAYERS];
        final int[] knows = new int[MOST_PLAYERS * PARTS];
        int players;
        int nightsPlayed;
        int takings;
        int z = 1;

        // THE BILL: by parts who plays it, by players what it plays
        final int[] cast = new int[PARTS];
        final int[] role = new int[MOST_PLAYERS];

        Company() {
            becomeAsAtFirst();
        }

        /** All as at first, but z. */
        void becomeAsAtFirst() {
            System.arraycopy(LAW_AT_FIRST, 0, laws, 0, LAWS);
            for (int part = 0; part < PARTS; part++) {
                weight[part] = 3;
            }
            players = 0;
            nightsPlayed = 0;
            takings = 0;
        }

        /** Becomes as another is; THE BILL is to be made anew. */
        void copyFrom(Company other) {
            System.arraycopy(other.laws, 0, laws, 0, LAWS);
            System.arraycopy(other.weight, 0, weight, 0, PARTS);
            System.arraycopy(other.kind, 0, kind, 0, MOST_PLAYERS);
            System.arraycopy(other.own, 0, own, 0, MOST_PLAYERS);
            System.arraycopy(other.ill, 0, ill, 0, MOST_PLAYERS);
            System.arraycopy(other.knows, 0, knows, 0, MOST_PLAYERS * PARTS);
            players = other.players;
            nightsPlayed = other.nightsPlayed;
            takings = other.takings;
            z = other.z;
        }

        /** One more, if there is room (its number is told; NOBODY if there is none). */
        int join(int newKind, int ownPart) {
            if (players >= MOST_PLAYERS) {
                return NOBODY;
            }
            int player = players;
            players++;
            kind[player] = newKind;
            own[player] = ownPart;
            ill[player] = 0;
            for (int part = 0; part < PARTS; part++) {
                learnTo(player, part, part == ownPart ? 60 : 0);
            }
            return player;
        }

        int knowing(int player, int part) {
            return knows[player * PARTS + part];
        }

        void learnTo(int player, int part, int v) {
            knows[player * PARTS + part] = heldTo(v, KNOWS_MOST);
        }

        int good(int player, int part) {
            int known = knows[player * PARTS + part];
            boolean isOwn = own[player] == part;
            switch (kind[player]) {
                case COVER:
                    return isOwn ? known : known + laws[HELP];
                case SECOND:
                    return isOwn ? known : known + laws[HELP] + 10;
                case PAGE:
                    return known / 2;
                case PROMPTER:
                    return known / 2 + 2 * laws[BOOK];
                case STAR:
                    return isOwn ? known + 5 : 0;
                default:
                    return known;
            }
        }

        int learns(int player) {
            switch (kind[player]) {
                case COVER:
                    return 2 + laws[HELP];
                case SECOND:
                    return 2 + laws[HELP] - 1;
                case PAGE:
                    return 6;
                case PROMPTER:
                    return 0;
                case STAR:
                    return -1;
                default:
                    return 2;
            }
        }

        int forgets(int player) {
            switch (kind[player]) {
                case COVER:
                case SECOND:
                    return 0;
                case PAGE:
                    return 2;
                case PROMPTER:
                    return 2 - laws[BOOK];
                case STAR:
                    return 2;
                default:
                    return 1;
            }
        }

        void makeBill() {
            for (int player = 0; player < players; player++) {
                role[player] = NO_PART;
            }
            for (int part = 0; part < PARTS; part++) {
                int player = bestFor(part);
                cast[part] = player;
                if (player != NOBODY) {
                    role[player] = part;
                }
            }
        }

        private int bestFor(int part) {
            int best = NOBODY;
            int most = laws[LEAST] - 1;
            for (int player = 0; player < players; player++) {
                if (ill[player] == 0 && role[player] == NO_PART && isFreeFor(player, part)) {
                    int good = good(player, part);
                    if (good > most) {
                        most = good;
                        best = player;
                    }
                }
            }
            return best;
        }

        private boolean isFreeFor(int player, int part) {
            int mine = own[player];
            if (mine < part) {
                return cast[mine] != NOBODY;
            }
            return mine == part || weight[mine] <= weight[part];
        }

        /** SHOW of THE BILL made latest. */
        int show() {
            int sum = 0;
            for (int part = 0; part < PARTS; part++) {
                if (cast[part] != NOBODY) {
                    sum += weight[part] * good(cast[part], part);
                }
            }
            return sum;
        }

        /** A NIGHT: its SHOW; its BILL can be looked at behind it. */
        int playNight() {
            makeBill();
            int show = show();
            takings = Math.min(takings + show, TAKINGS_MOST);
            for (int player = 0; player < players; player++) {
                if (ill[player] == 0) {
                    learnAndForget(player);
                } else {
                    ill[player]--;
                }
            }
            nightsPlayed++;
            return show;
        }

        private void learnAndForget(int player) {
            int played = role[player];
            int learnt = learns(player);
            int forgotten = forgets(player);
            int first = player * PARTS;
            for (int part = 0; part < PARTS; part++) {
                int change = part == played ? learnt : -forgotten;
                knows[first + part] = heldTo(knows[first + part] + change, KNOWS_MOST);
            }
        }

        private int draw() {
            z = z * 1103515245 + 12345;
            return z >>> 16;
        }

        /** What comes before the NIGHT in A NIGHT BY DRAWS. */
        void drawThroat() {
            if (players > 0) {
                int player = draw() % players;
                if (draw() % 100 < laws[THROAT]) {
                    ill[player] = Math.max(ill[player], draw() % 10);
                }
            }
        }

        int cutParts() {
            int set = 0;
            for (int part = 0; part < PARTS; part++) {
                if (cast[part] == NOBODY) {
                    set |= 1 << part;
                }
            }
            return set;
        }

        int illPlayers() {
            int set = 0;
            for (int player = 0; player < players; player++) {
                if (ill[player] > 0) {
                    set |= 1 << player;
                }
            }
            return set;
        }

        int moved() {
            int count = 0;
            for (int player = 0; player < players; player++) {
                if (role[player] != NO_PART && role[player] != own[player]) {
                    count++;
                }
            }
            return count;
        }

        int ownersOf(int part) {
            int set = 0;
            for (int player = 0; player < players; player++) {
                if (own[player] == part) {
                    set |= 1 << player;
                }
            }
            return set;
        }

        int partsOwned() {
            int set = 0;
            for (int player = 0; player < players; player++) {
                set |= 1 << own[player];
            }
            return Integer.bitCount(set);
        }
    }

    /** What is asked of the company of now and tried on another, so that nothing changes. */
    private static final class Trials {
        static final int MOST_NIGHTS = 60;

        private final Company now;
        private final Company tried;

        Trials(Company now, Company tried) {
            this.now = now;
            this.tried = tried;
        }

        /** How much tried has taken in all behind n more NIGHTS, were its TAKINGS not held. */
        private int takeFor(int n) {
            int taken = tried.takings;
            for (int i = 0; i < n; i++) {
                taken += tried.playNight();
            }
            return taken;
        }

        int takenBehind(int n) {
            tried.copyFrom(now);
            return takeFor(n);
        }

        int knowingBehind(int player, int part, int n) {
            tried.copyFrom(now);
            takeFor(n);
            return tried.knowing(player, part);
        }

        // The NIGHT played in turn i goes by THE BILL behind i NIGHTS, and leaves it to be looked at.
        int firstOnBill(int player, int part) {
            tried.copyFrom(now);
            for (int i = 0; i <= MOST_NIGHTS; i++) {
                tried.playNight();
                if (tried.role[player] == part) {
                    return i;
                }
            }
            return NONE;
        }

        int firstFullHouse() {
            tried.copyFrom(now);
            for (int i = 0; i <= MOST_NIGHTS; i++) {
                tried.playNight();
                if (tried.cutParts() == 0) {
                    return i;
                }
            }
            return NONE;
        }

        private int showOfTried() {
            tried.makeBill();
            return tried.show();
        }

        int spoiltOf(int n) {
            tried.copyFrom(now);
            int whole = showOfTried();
            int count = 0;
            for (int i = 0; i < n; i++) {
                int z = tried.z;
                tried.copyFrom(now);
                tried.z = z;
                tried.drawThroat();
                if (showOfTried() < whole) {
                    count++;
                }
            }
            return count;
        }

        int worstIllness() {
            tried.copyFrom(now);
            int worst = NONE;
            int least = showOfTried();
            for (int player = 0; player < now.players; player++) {
                if (now.ill[player] == 0) {
                    tried.ill[player] = 1;
                    int show = showOfTried();
                    tried.ill[player] = 0;
                    if (show < least) {
                        least = show;
                        worst = player;
                    }
                }
            }
            return worst;
        }

        int bestKind(int player, int n) {
            int best = NONE;
            int most = -1;
            for (int kind = 0; kind < KINDS; kind++) {
                tried.copyFrom(now);
                tried.kind[player] = kind;
                int taken = takeFor(n);
                if (taken > most) {
                    most = taken;
                    best = kind;
                }
            }
            return best;
        }

        int leastKnowing(int player, int part) {
            tried.copyFrom(now);
            for (int v = 0; v <= KNOWS_MOST; v++) {
                tried.learnTo(player, part, v);
                tried.makeBill();
                if (tried.role[player] == part) {
                    return v;
                }
            }
            return NONE;
        }

        int bestLearner(int part, int n) {
            int best = NONE;
            tried.copyFrom(now);
            int most = takeFor(n);
            for (int player = 0; player < now.players; player++) {
                tried.copyFrom(now);
                tried.learnTo(player, part, KNOWS_MOST);
                int taken = takeFor(n);
                if (taken > most) {
                    most = taken;
                    best = player;
                }
            }
            return best;
        }

        int fewestWell(int v) {
            tried.copyFrom(now);
            int ill = now.illPlayers();
            int best = NONE;
            int fewest = MOST_PLAYERS + 1;
            for (int set = 0; set < 1 << now.players; set++) {
                int many = Integer.bitCount(set);
                if ((set & ill) == 0 && many < fewest && showOfSet(set) >= v) {
                    fewest = many;
                    best = set;
                }
            }
            return best;
        }

        private int showOfSet(int well) {
            for (int player = 0; player < tried.players; player++) {
                tried.ill[player] = (well >> player & 1) == 1 ? 0 : 1;
            }
            return showOfTried();
        }

        int howManyFit(Sheet told, int player) {
            int count = 0;
            for (int v = 0; v <= KNOWS_MOST; v++) {
                if (isFitting(told, player, v)) {
                    count++;
                }
            }
            return count;
        }

        int leastThatFits(Sheet told, int player) {
            for (int v = 0; v <= KNOWS_MOST; v++) {
                if (isFitting(told, player, v)) {
                    return v;
                }
            }
            return NONE;
        }

        private boolean isFitting(Sheet told, int player, int v) {
            tried.copyFrom(now);
            tried.learnTo(player, tried.own[player], v);
            int toLookAt = told.toldUpTo();
            for (int i = 0; i < toLookAt; i++) {
                int show = tried.playNight();
                if (told.items[i] != Sheet.ANY && told.items[i] != show) {
                    return false;
                }
            }
            return true;
        }

        /** ROWS of one by n NIGHTS, one behind another. */
        void makeRows(int player, int n, int[] into) {
            tried.copyFrom(now);
            for (int i = 0; i < n && (i + 1) * ROW_WIDTH <= into.length; i++) {
                int show = tried.playNight();
                into[i * ROW_WIDTH] = tried.role[player];
                into[i * ROW_WIDTH + 1] = tried.knowing(player, tried.own[player]);
                into[i * ROW_WIDTH + 2] = show;
            }
        }
    }

    /** THE TAPE, and how its TEXT is read. */
    private static final class Tape {
        static final int MOST = 200;
        static final int NO_FAULT = -1;
        private static final int DIGITS_MOST = 3;

        // NAMES: the KINDS by their numbers, then the LAWS in their order, then the others
        private static final int FIRST_LAW = KINDS, PART = 10, OF = 11, KNOWS = 12, ILL = 13;
        private static final int OPENING_NAMES = 11;

        private final byte[] bytes = new byte[MOST];
        int length;
        private int at;
        private int fault;

        /** n bytes of eight more, the lowest first; false, and nothing more, if they are too many. */
        boolean append(long eight, int n) {
            if (n > MOST - length) {
                return false;
            }
            for (int i = 0; i < n; i++) {
                bytes[length + i] = (byte) (eight >>> 8 * i);
            }
            length += n;
            return true;
        }

        /** A company becomes what the TEXT tells: NO_FAULT, or the place of its FAULT. */
        int tell(Company all) {
            all.becomeAsAtFirst();
            at = 0;
            fault = NO_FAULT;
            passBlanks();
            for (int i = 0; i < MOST && at < length && fault == NO_FAULT; i++) {
                tellOne(all);
                passEnd();
            }
            return fault;
        }

        private void tellOne(Company all) {
            int start = at;
            int name = passOpeningName();
            if (name == NONE || (name < KINDS && all.players == MOST_PLAYERS)) {
                fail(start);
            } else if (name < KINDS) {
                tellPlayer(all, name);
            } else if (name == PART) {
                int part = passNumber(PARTS - 1);
                all.weight[part] = passNumber(WEIGHT_MOST);
            } else {
                all.laws[name - FIRST_LAW] = passNumber(LAW_MOST[name - FIRST_LAW]);
            }
        }

        private void tellPlayer(Company all, int kind) {
            if (!passName(OF)) {
                fail(at);
            }
            int part = passNumber(PARTS - 1);
            int player = all.join(kind, part);
            if (passName(KNOWS)) {
                all.learnTo(player, part, passNumber(KNOWS_MOST));
            }
            if (passName(ILL)) {
                all.ill[player] = passNumber(ILL_MOST);
            }
        }

        private int passOpeningName() {
            for (int name = 0; name < OPENING_NAMES; name++) {
                if (passName(name)) {
                    return name;
                }
            }
            return NONE;
        }

        // Passes a NAME and the blanks behind it, if it stands here.
        private boolean passName(int name) {
            String letters = lettersOf(name);
            int end = at + letters.length();
            if (end > length || (end < length && isLetter(bytes[end]))) {
                return false;
            }
            for (int i = at; i < end; i++) {
                if (bytes[i] != letters.charAt(i - at)) {
                    return false;
                }
            }
            at = end;
            passBlanks();
            return true;
        }

        private static String lettersOf(int name) {
            switch (name) {
                case PLAYER:
                    return "player";
                case COVER:
                    return "cover";
                case PAGE:
                    return "page";
                case SECOND:
                    return "second";
                case PROMPTER:
                    return "prompter";
                case STAR:
                    return "star";
                case FIRST_LAW + HELP:
                    return "help";
                case FIRST_LAW + BOOK:
                    return "book";
                case FIRST_LAW + LEAST:
                    return "least";
                case FIRST_LAW + THROAT:
                    return "throat";
                case PART:
                    return "part";
                case OF:
                    return "of";
                case KNOWS:
                    return "knows";
                default:
                    return "ill";
            }
        }

        // Passes a NUMBER of 0 to most and the blanks behind it; a FAULT, and 0, if none such stands here.
        private int passNumber(int most) {
            int start = at;
            int v = 0;
            for (; at < length && isDigit(bytes[at]); at++) {
                v = v * 10 + (bytes[at] - '0');
            }
            int digits = at - start;
            if (digits == 0 || digits > DIGITS_MOST || v > most) {
                fail(start);
                return 0;
            }
            passBlanks();
            return v;
        }

        private void passEnd() {
            if (at < length && bytes[at] == ';') {
                at++;
                passBlanks();
            } else {
                fail(at);
            }
        }

        private void passBlanks() {
            while (at < length && bytes[at] == ' ') {
                at++;
            }
        }

        // The first FAULT counts: what is read behind it may be astray.
        private void fail(int place) {
            if (fault == NO_FAULT) {
                fault = place;
            }
        }

        private static boolean isLetter(byte b) {
            return b >= 'a' && b <= 'z';
        }

        private static boolean isDigit(byte b) {
            return b >= '0' && b <= '9';
        }
    }

    /** A SHEET: a row of a sort, or missing. Numbers come as ints, so that a long's item is one too. */
    private static final class Sheet {
        static final int MOST = 40;
        static final int ANY = -1;

        int sort = MISSING;
        int size;
        final int[] items = new int[MOST];

        void become(int newSort, int newSize) {
            sort = newSort;
            size = newSize;
            for (int i = 0; i < MOST; i++) {
                items[i] = 0;
            }
        }

        int narrowed(int v) {
            switch (sort) {
                case BYTES:
                    return (byte) v;
                case 1:
                    return (short) v;
                default:
                    return v;
            }
        }

        /** How many items there are up to the last one that isn't ANY. */
        int toldUpTo() {
            int end = size;
            while (end > 0 && items[end - 1] == ANY) {
                end--;
            }
            return end;
        }
    }

    /** THE TRACE of the latest act(). */
    private static final class Trace {
        static final int MOST = 30;

        final int[] bodies = new int[MOST];
        int count;
        boolean partedBy0;

        void clear() {
            count = 0;
            partedBy0 = false;
        }
    }

    /**
     * One of the PLAYERS held as a thing. Each body notes itself in THE TRACE without a call, as calls of bodies
     * go deep enough by themselves.
     */
    private static class Player {
        final Trace log;
        int n;
        int a;

        Player(Trace log) {
            this.log = log;
        }

        final void hold(int number, int ownPart) {
            n = number;
            a = ownPart;
        }

        int bows(int x) {
            if (log.count < Trace.MOST) {
                log.bodies[log.count++] = 10;
            }
            return x * 6 - n;
        }

        int sings(int x) {
            if (log.count < Trace.MOST) {
                log.bodies[log.count++] = 11;
            }
            return bows(x) + a * 2;
        }

        int parts(int x) {
            if (log.count < Trace.MOST) {
                log.bodies[log.count++] = 12;
            }
            if (a == n) {
                log.partedBy0 = true;
                return 0;
            }
            return x / (a - n);
        }

        int moves(int x) {
            if (log.count < Trace.MOST) {
                log.bodies[log.count++] = 13;
            }
            return sings(x) ^ 220;
        }
    }

    private static class Cover extends Player {
        Cover(Trace log) {
            super(log);
        }

        @Override
        int sings(int x) {
            if (log.count < Trace.MOST) {
                log.bodies[log.count++] = 20;
            }
            return super.sings(x) * 3;
        }
    }

    private static class Page extends Player {
        Page(Trace log) {
            super(log);
        }

        @Override
        int bows(int x) {
            if (log.count < Trace.MOST) {
                log.bodies[log.count++] = 30;
            }
            return 0 - super.bows(x);
        }

        @Override
        int moves(int x) {
            if (log.count < Trace.MOST) {
                log.bodies[log.count++] = 31;
            }
            return super.moves(x) + parts(n);
        }
    }

    private static final class Second extends Cover {
        Second(Trace log) {
            super(log);
        }

        @Override
        int parts(int x) {
            if (log.count < Trace.MOST) {
                log.bodies[log.count++] = 50;
            }
            return super.parts(x - 7) - a;
        }

        @Override
        int bows(int x) {
            if (log.count < Trace.MOST) {
                log.bodies[log.count++] = 51;
            }
            return super.bows(x) * 2;
        }
    }

    private static final class Prompter extends Page {
        Prompter(Trace log) {
            super(log);
        }

        @Override
        int bows(int x) {
            if (log.count < Trace.MOST) {
                log.bodies[log.count++] = 40;
            }
            return super.bows(x) + 5;
        }

        @Override
        int sings(int x) {
            if (log.count < Trace.MOST) {
                log.bodies[log.count++] = 41;
            }
            return super.sings(x) ^ bows(a);
        }
    }

    private static final class Star extends Player {
        Star(Trace log) {
            super(log);
        }

        @Override
        int moves(int x) {
            if (log.count < Trace.MOST) {
                log.bodies[log.count++] = 60;
            }
            return super.moves(x) - 1;
        }

        @Override
        int parts(int x) {
            if (log.count < Trace.MOST) {
                log.bodies[log.count++] = 61;
            }
            int parted = super.parts(x);
            // parted by 0, nothing runs behind it
            if (log.partedBy0) {
                return 0;
            }
            return parted * bows(n);
        }
    }
}
