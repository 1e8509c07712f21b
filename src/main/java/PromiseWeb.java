import java.util.NoSuchElementException;

/**
 * A web spun out of what had been promised. The document's words in capitals (THE TAPE, HOLDS,
 * BEARS, CUT and the rest) are used in the comments as the document uses them.
 *
 * All rows are made by the constructor and used again: no call makes an object.
 */
public final class PromiseWeb {
    public static final int NONE = -1;

    private static final int NEVER = -2;
    private static final int NO_SPARE = -1000;
    private static final int NO_BLOW = -100;

    // TROUBLE
    private static final int NO_SUCH = 1;
    private static final int BAD_NUMBER = 2;
    private static final int NO_ROOM = 3;
    private static final int FAULTY = 4;
    private static final int NOT_SO = 5;
    private static final int NOTHING_THERE = 6;

    // sorts of LINES
    private static final int WEB = 0;
    private static final int NAIL = 1;
    private static final int THREAD = 2;
    private static final int CLASH = 3;
    private static final int LOAD = 4;
    private static final int OFFER = 5;
    private static final int UNSURE = 6;
    private static final int HAIR = 7;
    private static final int[] ROOM = {1, 7, 7, 8, 4, 5, 5, 6};

    // KINDS
    private static final int KEPT = 0;
    private static final int FADING = 1;
    private static final int PROVING = 2;
    private static final int LIED = 3;

    // columns of a thread, in the order in which it is told
    private static final int KIND = 0;
    private static final int ONE_END = 1;
    private static final int OTHER_END = 2;
    private static final int STRONG = 3;
    private static final int STEP = 4;
    private static final int SINCE = 5;

    // columns of the other LINES, in the order in which they are told
    private static final int FIRST = 0;
    private static final int SECOND = 1;
    private static final int THIRD = 2;
    private static final int FOURTH = 3;

    private static final int COLUMNS = 6;
    private static final int MOST_NAILS = 7;
    private static final int MOST_THREADS = 8;
    private static final int MOST_OFFERS = 5;
    private static final int MOST_UNSURE = 5;
    private static final int MOST_STRENGTH = 99;
    private static final int MOST_YEARS_ASKED = 60;
    private static final int MOST_YEARS = 999;
    private static final int MOST_SEED = 65536;
    private static final int MOST_BORNE = 800;
    private static final int MOST_WEB = 9;
    private static final int HUNDRED = 100;

    private final Reader reader;
    private final Told told;
    private final State state;
    private final Past past;
    private final Bearing bearing;
    private final Liars liars;
    private final Clerks clerks;
    private final Share share;
    private int refusal;

    public PromiseWeb() {
        reader = new Reader();
        told = new Told();
        state = new State();
        past = new Past();
        bearing = new Bearing();
        liars = new Liars();
        clerks = new Clerks();
        share = new Share();
    }

    // ---- the web

    public int feed(int a, int b, int c, int d, int e) {
        Tape tape = reader.tape;
        if (!tape.takesTwenty()) {
            return NONE;
        }
        tape.append(a);
        tape.append(b);
        tape.append(c);
        tape.append(d);
        tape.append(e);
        return tape.count;
    }

    public int web(int n) {
        if (refused(within(n, 0, reader.tape.count))) {
            return NONE;
        }
        reader.read(n);
        reader.tape.count = 0;
        if (refused(reader.fault == 0 ? 0 : FAULTY)) {
            return NONE;
        }
        told.copyFrom(reader.draft);
        state.begin(told);
        past.forget();
        liars.weigh(told);
        return told.howMany(NAIL);
    }

    public int fault() {
        return reader.fault;
    }

    public int where() {
        return refusal == FAULTY ? reader.place : NONE;
    }

    // ---- now

    public int thread(int t, int what) {
        if (refused(firstOf(needThread(t), what >= 0 && what <= 6 ? 0 : NO_SUCH))) {
            return NONE;
        }
        switch (what) {
            case STRONG:
                return state.strength(t, 0);
            case 5:
                return state.isSnapped(t) ? 1 : 0;
            case 6:
                return told.clashingWith(t);
            default:
                return state.cell(t, what);
        }
    }

    public int nail(int a, int what) {
        if (refused(firstOf(needNail(a), what == 0 || what == 1 ? 0 : NO_SUCH))) {
            return NONE;
        }
        goBehind(0);
        int held = bearing.heldAt(a);
        return what == 0 ? held : bearing.sumOf(held);
    }

    public int strong(int t, int n) {
        if (refused(firstOf(needThread(t), needYears(n)))) {
            return NONE;
        }
        return state.strength(t, n);
    }

    public int breaksIn(int t) {
        if (refused(needThread(t))) {
            return NONE;
        }
        for (int n = 0; n <= MOST_YEARS_ASKED; n++) {
            if (state.strength(t, n) == 0) {
                return n;
            }
        }
        return NEVER;
    }

    public int holding(int n) {
        if (refused(firstOf(needWeb(), needYears(n)))) {
            return NONE;
        }
        goBehind(n);
        return bearing.held();
    }

    public int strongest(int n) {
        if (refused(firstOf(needWeb(), needYears(n)))) {
            return NONE;
        }
        int best = NEVER;
        int most = 0;
        for (int t = 0; t < state.threads(); t++) {
            int strength = state.strength(t, n);
            if (strength > most) {
                most = strength;
                best = t;
            }
        }
        return best;
    }

    // ---- what it bears

    public int bears(int a, int b, int n) {
        if (refused(firstOf(needTwoNails(a, b), needYears(n)))) {
            return NONE;
        }
        goBehind(n);
        return bearing.between(a, b);
    }

    public int cut(int a, int b, int n) {
        if (refused(firstOf(needTwoNails(a, b), needYears(n)))) {
            return NONE;
        }
        goBehind(n);
        bearing.part(a, b);
        return bearing.fewestCut();
    }

    public int vital(int a, int b, int n) {
        if (refused(firstOf(needTwoNails(a, b), needYears(n)))) {
            return NONE;
        }
        goBehind(n);
        bearing.part(a, b);
        int held = bearing.held();
        int best = NEVER;
        int least = 0;
        for (int t = 0; t < state.threads(); t++) {
            if (has(held, t)) {
                int borneWithout = bearing.borneBy(held ^ (1 << t));
                if (best == NEVER || borneWithout < least) {
                    least = borneWithout;
                    best = t;
                }
            }
        }
        return best;
    }

    public int needed(int a, int b, int n) {
        if (refused(firstOf(needTwoNails(a, b), needYears(n)))) {
            return NONE;
        }
        goBehind(n);
        bearing.part(a, b);
        int held = bearing.held();
        int all = bearing.borneBy(held);
        int bits = 0;
        for (int t = 0; t < state.threads(); t++) {
            if (has(held, t) && bearing.borneBy(held ^ (1 << t)) < all) {
                bits |= 1 << t;
            }
        }
        return bits;
    }

    public int weakest(int n) {
        if (refused(firstOf(needWeb(), needYears(n)))) {
            return NONE;
        }
        goBehind(n);
        int nails = told.howMany(NAIL);
        int best = NEVER;
        int least = 0;
        for (int a = 0; a < nails; a++) {
            for (int b = a + 1; b < nails; b++) {
                int much = bearing.between(a, b);
                if (best == NEVER || much < least) {
                    least = much;
                    best = 10 * a + b;
                }
            }
        }
        return best;
    }

    public int apart(int a, int b, int n) {
        if (refused(firstOf(firstOf(needNail(a), needNail(b)), needYears(n)))) {
            return NONE;
        }
        goBehind(n);
        return bearing.steps(a, b);
    }

    public int parts(int n) {
        if (refused(firstOf(needWeb(), needYears(n)))) {
            return NONE;
        }
        goBehind(n);
        return bearing.pieces(bearing.held());
    }

    public int bridges(int n) {
        if (refused(firstOf(needWeb(), needYears(n)))) {
            return NONE;
        }
        goBehind(n);
        int held = bearing.held();
        int whole = bearing.pieces(held);
        int bits = 0;
        for (int t = 0; t < state.threads(); t++) {
            if (has(held, t) && bearing.pieces(held ^ (1 << t)) > whole) {
                bits |= 1 << t;
            }
        }
        return bits;
    }

    // ---- loads, offers

    public int borne(int n) {
        if (refused(firstOf(needWeb(), needYears(n)))) {
            return NONE;
        }
        goBehind(n);
        return loadsBorneBy(bearing.held());
    }

    public int fallsIn(int k) {
        if (refused(needLoad(k))) {
            return NONE;
        }
        goBehind(0);
        partForLoad(k);
        for (int n = 0; n <= MOST_YEARS_ASKED; n++) {
            bearing.strengthen(state, n);
            if (bearing.borneBy(bearing.held()) < told.cell(LOAD, k, THIRD)) {
                return n;
            }
        }
        return NEVER;
    }

    public int spare(int k) {
        if (refused(needLoad(k))) {
            return NO_SPARE;
        }
        goBehind(0);
        partForLoad(k);
        return bearing.borneBy(bearing.held()) - told.cell(LOAD, k, THIRD);
    }

    public int mend() {
        if (refused(needWeb())) {
            return NONE;
        }
        return cheapestMend();
    }

    public int mendCost() {
        if (refused(needWeb())) {
            return NONE;
        }
        int offers = cheapestMend();
        return offers == NEVER ? NEVER : costOf(offers);
    }

    public int bestOffer() {
        if (refused(needWeb())) {
            return NONE;
        }
        goBehind(0);
        int held = bearing.held();
        int most = Integer.bitCount(loadsBorneBy(held));
        int best = NEVER;
        for (int k = 0; k < told.howMany(OFFER); k++) {
            int loads = Integer.bitCount(loadsBorneBy(held | Bearing.ofOffers(1 << k)));
            if (loads > most) {
                most = loads;
                best = k;
            }
        }
        return best;
    }

    // ---- promises that can't all be kept

    public int clashes(int n) {
        if (refused(firstOf(needWeb(), needYears(n)))) {
            return NONE;
        }
        goBehind(n);
        return told.clashesAmong(bearing.held());
    }

    public int breakFew() {
        if (refused(needWeb())) {
            return NONE;
        }
        return leastBreak(false);
    }

    public int breakRued() {
        if (refused(needWeb())) {
            return NONE;
        }
        return leastBreak(true);
    }

    public int rue() {
        if (refused(needWeb())) {
            return NONE;
        }
        return bearing.sumOf(leastBreak(true));
    }

    public int peaces() {
        if (refused(needWeb())) {
            return NONE;
        }
        goBehind(0);
        int held = bearing.held();
        int count = 0;
        for (int set = 0; set <= held; set++) {
            if (isWithin(set, held) && told.clashesAmong(set) == 0) {
                count++;
            }
        }
        return count;
    }

    // ---- who lied

    public int fits() {
        if (refused(needWeb())) {
            return NONE;
        }
        return liars.fitting();
    }

    public int fitAt(int i) {
        if (refused(firstOf(needWeb(), i >= 0 && i < liars.fitting() ? 0 : NO_SUCH))) {
            return NONE;
        }
        return liars.fittingAt(i);
    }

    public long odds(int k, boolean lower) {
        if (refused(needRow(UNSURE, k))) {
            return NONE;
        }
        share.set(liars.weightWith(k), liars.whole());
        return share.part(lower);
    }

    public int likeliest() {
        if (refused(needWeb())) {
            return NONE;
        }
        return liars.heaviest();
    }

    public int test() {
        if (refused(needWeb())) {
            return NONE;
        }
        return liars.bestAsked();
    }

    public int testLeaves() {
        if (refused(needWeb())) {
            return NONE;
        }
        int k = liars.bestAsked();
        return k == NEVER ? NEVER : liars.leftAtMost(k);
    }

    public long brown(int t, int u, boolean lower) {
        if (refused(firstOf(needThread(t), needThread(u)))) {
            return NONE;
        }
        share.set(liars.weightOfBrown(told, t, u), liars.whole());
        return share.part(lower);
    }

    public int judge() {
        if (refused(needWeb())) {
            return NONE;
        }
        for (int k = 0; k < told.howMany(HAIR); k++) {
            boolean brown = told.isLied(told.cell(HAIR, k, FIRST)) || told.isLied(told.cell(HAIR, k, SECOND));
            if (brown != told.isToldBrown(k)) {
                return k;
            }
        }
        return NEVER;
    }

    // ---- by turns

    public int snaps(int a, int b) {
        if (refused(needTwoNails(a, b))) {
            return NONE;
        }
        goBehind(0);
        bearing.playTurns(a, b);
        return bearing.wins(bearing.held()) ? 1 : 0;
    }

    public int snapsBy(int a, int b) {
        if (refused(needTwoNails(a, b))) {
            return NONE;
        }
        goBehind(0);
        bearing.playTurns(a, b);
        int held = bearing.held();
        return bearing.borneBy(held) == 0 ? NEVER : bearing.winningSnap(held);
    }

    public int blows(int web, boolean registrar, boolean clerk, boolean ofClerk) {
        if (refused(firstOf(needWeb(), within(web, 0, MOST_WEB)))) {
            return NO_BLOW;
        }
        return ofClerk ? gain(web, clerk, registrar) : gain(web, registrar, clerk);
    }

    public int rests(int web) {
        if (refused(firstOf(needWeb(), within(web, 0, MOST_WEB)))) {
            return NONE;
        }
        int count = 0;
        for (int pair = 0; pair < 4; pair++) {
            if (isRest(web, pair >= 2, pair % 2 == 1)) {
                count++;
            }
        }
        return count;
    }

    public int rest(int web) {
        if (refused(firstOf(needWeb(), within(web, 0, MOST_WEB)))) {
            return NONE;
        }
        for (int pair = 0; pair < 4; pair++) {
            if (isRest(web, pair >= 2, pair % 2 == 1)) {
                return pair / 2 * 10 + pair % 2;
            }
        }
        return NEVER;
    }

    // ---- clerks

    public long bearOdds(int a, int b, int much, boolean lower) {
        if (refused(firstOf(needTwoNails(a, b), within(much, 0, MOST_BORNE)))) {
            return NONE;
        }
        goBehind(0);
        bearing.part(a, b);
        int held = bearing.held();
        long upper = 0;
        for (int left = 0; left <= held; left++) {
            if (isWithin(left, held) && bearing.borneBy(left) >= much) {
                upper += chanceOf(left, held);
            }
        }
        share.set(upper, power(HUNDRED, Integer.bitCount(held)));
        return share.part(lower);
    }

    public long mean(int a, int b, boolean lower) {
        if (refused(needTwoNails(a, b))) {
            return NONE;
        }
        goBehind(0);
        bearing.part(a, b);
        int held = bearing.held();
        // eight threads of 99 at most: 792 times 100 to the 8th, which a long holds
        long upper = 0;
        for (int left = 0; left <= held; left++) {
            if (isWithin(left, held)) {
                upper += bearing.borneBy(left) * chanceOf(left, held);
            }
        }
        share.set(upper, power(HUNDRED, Integer.bitCount(held)));
        return share.part(lower);
    }

    public int years(int seed, int n) {
        if (refused(firstOf(needWeb(), firstOf(within(seed, 0, MOST_SEED), needYears(n))))) {
            return NONE;
        }
        clerks.begin(seed);
        for (int y = 1; y <= n; y++) {
            clerks.passYear(state, y, told.clerksInHundred());
        }
        goBehind(n);
        return bearing.held() & ~clerks.snapped;
    }

    public int fallsBy(int k, int seed, int n) {
        if (refused(firstOf(needLoad(k), firstOf(within(seed, 0, MOST_SEED), needYears(n))))) {
            return NONE;
        }
        goBehind(0);
        partForLoad(k);
        clerks.begin(seed);
        for (int y = 1; y <= n; y++) {
            clerks.passYear(state, y, told.clerksInHundred());
            bearing.strengthen(state, y);
            if (bearing.borneBy(bearing.held() & ~clerks.snapped) < told.cell(LOAD, k, THIRD)) {
                return y;
            }
        }
        return NEVER;
    }

    // ---- acts

    public int year() {
        if (refused(firstOf(needWeb(), state.yearsGone() < MOST_YEARS ? 0 : NO_ROOM))) {
            return NONE;
        }
        goBehind(0);
        int before = bearing.held();
        past.keep(state);
        state.passYear();
        goBehind(0);
        return before & ~bearing.held();
    }

    public boolean snap(int t) {
        if (refused(firstOf(needThread(t), state.strength(t, 0) > 0 ? 0 : NOT_SO))) {
            return false;
        }
        past.keep(state);
        state.setSnapped(t);
        return true;
    }

    public int spin(int k) {
        if (refused(firstOf(needRow(OFFER, k), state.threads() < MOST_THREADS ? 0 : NO_ROOM))) {
            return NONE;
        }
        past.keep(state);
        state.addKept(told.cell(OFFER, k, FIRST), told.cell(OFFER, k, SECOND), told.cell(OFFER, k, THIRD));
        return state.threads() - 1;
    }

    public int darn(int t) {
        if (refused(firstOf(needThread(t), state.isSnapped(t) || state.age(t) > 0 ? 0 : NOT_SO))) {
            return NONE;
        }
        past.keep(state);
        state.renew(t);
        return state.strength(t, 0);
    }

    public boolean undo() {
        if (refused(past.count > 0 ? 0 : NOTHING_THERE)) {
            return false;
        }
        past.takeBack(state);
        return true;
    }

    public int image() {
        if (refused(firstOf(needWeb(), past.imaged < Past.MOST_IMAGES ? 0 : NO_ROOM))) {
            return NONE;
        }
        past.takeImage(state);
        return past.imaged - 1;
    }

    public boolean back(int image) {
        if (refused(image >= 0 && image < past.imaged ? 0 : NO_SUCH)) {
            return false;
        }
        past.goBack(state, image);
        return true;
    }

    // ---- what is told

    public int led(int i) throws NoSuchElementException {
        int left = i;
        for (int t = 0; t < state.threads(); t++) {
            if (state.strength(t, 0) == 0) {
                if (left == 0) {
                    return t;
                }
                left--;
            }
        }
        throw new NoSuchElementException();
    }

    public int size(int what) {
        switch (what) {
            case 0:
                return told.slipsInHundred();
            case 1:
                return told.clerksInHundred();
            case 2:
                return told.howMany(NAIL);
            case 3:
                return state.threads();
            case 4:
                return told.howMany(CLASH);
            case 5:
                return told.howMany(LOAD);
            case 6:
                return told.howMany(OFFER);
            case 7:
                return told.howMany(UNSURE);
            case 8:
                return told.howMany(HAIR);
            case 9:
                return state.yearsGone();
            case 10:
                return past.count;
            case 11:
                return past.imaged;
            case 12:
                return reader.tape.count;
            default:
                return NONE;
        }
    }

    public int trouble() {
        return refusal;
    }

    // ---- what a call needs: 0, or the TROUBLE if it isn't there

    private boolean refused(int number) {
        refusal = number;
        return number != 0;
    }

    private static int firstOf(int number, int next) {
        return number != 0 ? number : next;
    }

    private static int within(int number, int least, int most) {
        return number >= least && number <= most ? 0 : BAD_NUMBER;
    }

    private static int needYears(int n) {
        return within(n, 0, MOST_YEARS_ASKED);
    }

    private int needWeb() {
        // a WEB has a nail at least
        return told.howMany(NAIL) > 0 ? 0 : NO_SUCH;
    }

    private int needRow(int sort, int k) {
        return k >= 0 && k < told.howMany(sort) ? 0 : NO_SUCH;
    }

    private int needNail(int a) {
        return needRow(NAIL, a);
    }

    private int needTwoNails(int a, int b) {
        return a == b ? NO_SUCH : firstOf(needNail(a), needNail(b));
    }

    private int needLoad(int k) {
        return needRow(LOAD, k);
    }

    private int needThread(int t) {
        return t >= 0 && t < state.threads() ? 0 : NO_SUCH;
    }

    // ---- what several calls share

    private static boolean has(int bits, int t) {
        return ((bits >> t) & 1) == 1;
    }

    private static boolean isWithin(int set, int bits) {
        return (set & ~bits) == 0;
    }

    private void goBehind(int n) {
        bearing.arrange(state, told);
        bearing.strengthen(state, n);
    }

    private void partForLoad(int k) {
        bearing.part(told.cell(LOAD, k, FIRST), told.cell(LOAD, k, SECOND));
    }

    private int loadsBorneBy(int threads) {
        int bits = 0;
        for (int k = 0; k < told.howMany(LOAD); k++) {
            partForLoad(k);
            if (bearing.borneBy(threads) >= told.cell(LOAD, k, THIRD)) {
                bits |= 1 << k;
            }
        }
        return bits;
    }

    private int costOf(int offers) {
        int cost = 0;
        for (int k = 0; k < told.howMany(OFFER); k++) {
            if (has(offers, k)) {
                cost += told.cell(OFFER, k, FOURTH);
            }
        }
        return cost;
    }

    private int cheapestMend() {
        goBehind(0);
        int held = bearing.held();
        int all = (1 << told.howMany(LOAD)) - 1;
        int best = NEVER;
        int least = 0;
        for (int offers = 0; offers < 1 << told.howMany(OFFER); offers++) {
            int cost = costOf(offers);
            boolean cheaper = best == NEVER || cost < least;
            if (cheaper && loadsBorneBy(held | Bearing.ofOffers(offers)) == all) {
                least = cost;
                best = offers;
            }
        }
        return best;
    }

    private int leastBreak(boolean byStrength) {
        goBehind(0);
        int held = bearing.held();
        int best = held;
        int least = byStrength ? bearing.sumOf(held) : Integer.bitCount(held);
        for (int set = 0; set <= held; set++) {
            if (isWithin(set, held) && told.clashesAmong(held & ~set) == 0) {
                int loss = byStrength ? bearing.sumOf(set) : Integer.bitCount(set);
                if (loss < least) {
                    least = loss;
                    best = set;
                }
            }
        }
        return best;
    }

    private static int gain(int web, boolean blows, boolean otherBlows) {
        if (blows) {
            return otherBlows ? 1 - web : 2;
        }
        return otherBlows ? -1 : 1;
    }

    private static boolean isRest(int web, boolean registrar, boolean clerk) {
        return gain(web, registrar, clerk) >= gain(web, !registrar, clerk)
            && gain(web, clerk, registrar) >= gain(web, !clerk, registrar);
    }

    /** How likely, in hundredths to the power of the threads that HOLD, just those of left stay. */
    private long chanceOf(int left, int held) {
        int inHundred = told.clerksInHundred();
        return power(HUNDRED - inHundred, Integer.bitCount(left)) * power(inHundred, Integer.bitCount(held & ~left));
    }

    private static long power(long base, int exponent) {
        long product = 1;
        for (int i = 0; i < exponent; i++) {
            product *= base;
        }
        return product;
    }

    /** The LINES of one sort, their numbers in columns. */
    private static final class Table {
        private static final int ROWS = 8;
        private final int[] cells = new int[ROWS * COLUMNS];
        int count;

        void add(int[] row) {
            if (count < ROWS && row.length >= COLUMNS) {
                System.arraycopy(row, 0, cells, count * COLUMNS, COLUMNS);
                count++;
            }
        }

        int cell(int i, int column) {
            boolean there = i >= 0 && i < count && column >= 0 && column < COLUMNS;
            return there ? cells[i * COLUMNS + column] : 0;
        }

        void copyFrom(Table from) {
            System.arraycopy(from.cells, 0, cells, 0, ROWS * COLUMNS);
            count = from.count;
        }
    }

    /** A WEB as it was told. */
    private static final class Told {
        private final Table web = new Table();
        private final Table nails = new Table();
        private final Table threads = new Table();
        private final Table clashes = new Table();
        private final Table loads = new Table();
        private final Table offers = new Table();
        private final Table unsure = new Table();
        private final Table hairs = new Table();

        private Table of(int sort) {
            switch (sort) {
                case NAIL:
                    return nails;
                case THREAD:
                    return threads;
                case CLASH:
                    return clashes;
                case LOAD:
                    return loads;
                case OFFER:
                    return offers;
                case UNSURE:
                    return unsure;
                case HAIR:
                    return hairs;
                default:
                    return web;
            }
        }

        void clear() {
            for (int sort = WEB; sort <= HAIR; sort++) {
                of(sort).count = 0;
            }
        }

        void copyFrom(Told from) {
            for (int sort = WEB; sort <= HAIR; sort++) {
                of(sort).copyFrom(from.of(sort));
            }
        }

        void add(int sort, int[] row) {
            of(sort).add(row);
        }

        int howMany(int sort) {
            return of(sort).count;
        }

        int cell(int sort, int i, int column) {
            return of(sort).cell(i, column);
        }

        int slipsInHundred() {
            return web.cell(0, FIRST);
        }

        int clerksInHundred() {
            return web.cell(0, SECOND);
        }

        boolean isLied(int t) {
            // a spun thread isn't told: it is kept
            return threads.cell(t, KIND) == LIED;
        }

        boolean isToldBrown(int hair) {
            return hairs.cell(hair, THIRD) == 1;
        }

        int clashesAmong(int bits) {
            int number = 0;
            for (int i = 0; i < clashes.count; i++) {
                if (has(bits, clashes.cell(i, FIRST)) && has(bits, clashes.cell(i, SECOND))) {
                    number++;
                }
            }
            return number;
        }

        int clashingWith(int t) {
            int bits = 0;
            for (int i = 0; i < clashes.count; i++) {
                int one = clashes.cell(i, FIRST);
                int other = clashes.cell(i, SECOND);
                bits |= one == t ? 1 << other : other == t ? 1 << one : 0;
            }
            return bits;
        }
    }

    /** THE TAPE, and the TOKEN of it that is being read. */
    private static final class Tape {
        static final int END = 0;
        static final int WORD = 1;
        static final int WHOLE = 2;
        static final int SEMICOLON = 3;
        static final int NO_TOKEN = 4;
        private static final int BYTES = 900;
        private static final int LONGEST_WORD = 8;
        private static final int LONGEST_WHOLE = 3;

        private final byte[] bytes = new byte[BYTES];
        int count;
        private int end;
        private int next;
        int token;
        int start;
        long code;
        int value;

        boolean takesTwenty() {
            return count + 20 <= BYTES;
        }

        void append(int number) {
            for (int shift = 24; shift >= 0; shift -= 8) {
                if (count < BYTES) {
                    bytes[count] = (byte) (number >> shift);
                    count++;
                }
            }
        }

        void rewind(int n) {
            end = n >= 0 && n <= count ? n : 0;
            next = 0;
        }

        void advance() {
            while (next < end && bytes[next] == ' ') {
                next++;
            }
            start = next;
            if (next >= end) {
                token = END;
            } else if (bytes[next] >= 'a' && bytes[next] <= 'z') {
                takeLetters();
            } else if (bytes[next] >= '0' && bytes[next] <= '9') {
                takeDigits();
            } else {
                token = bytes[next] == ';' ? SEMICOLON : NO_TOKEN;
                next++;
            }
        }

        private void takeLetters() {
            code = 0;
            while (next < end && bytes[next] >= 'a' && bytes[next] <= 'z') {
                // five bits a letter: unlike WORDS of up to eight have unlike codes
                code = code << 5 | bytes[next] - 'a' + 1;
                next++;
            }
            token = next - start <= LONGEST_WORD ? WORD : NO_TOKEN;
        }

        private void takeDigits() {
            value = 0;
            while (next < end && bytes[next] >= '0' && bytes[next] <= '9') {
                value = value * 10 + bytes[next] - '0';
                next++;
            }
            token = next - start <= LONGEST_WHOLE ? WHOLE : NO_TOKEN;
        }

        boolean isWord(String text) {
            long wanted = 0;
            for (int i = 0; i < text.length(); i++) {
                wanted = wanted << 5 | text.charAt(i) - 'a' + 1;
            }
            return token == WORD && code == wanted;
        }
    }

    /** The NAMES told so far, of nails and of threads. */
    private static final class Names {
        private static final int MOST = 14;
        private final long[] codes = new long[MOST];
        private final int[] sorts = new int[MOST];
        private final int[] numbers = new int[MOST];
        private int count;

        void clear() {
            count = 0;
        }

        void add(long code, int sort, int number) {
            if (count < MOST) {
                codes[count] = code;
                sorts[count] = sort;
                numbers[count] = number;
                count++;
            }
        }

        boolean isTold(long code) {
            for (int i = 0; i < count; i++) {
                if (codes[i] == code) {
                    return true;
                }
            }
            return false;
        }

        int numberOf(long code, int sort) {
            for (int i = 0; i < count; i++) {
                if (codes[i] == code && sorts[i] == sort) {
                    return numbers[i];
                }
            }
            return NONE;
        }
    }

    /** Reads a WEB from THE TAPE; stops at the first FAULT, which is the leftmost, since each is seen at its place. */
    private static final class Reader {
        private static final int FORM = 1;
        private static final int UNTOLD = 2;
        private static final int AGAIN = 3;
        private static final int OUT_OF_BOUNDS = 4;
        private static final int MANY = 5;
        private static final int LACKS = 6;

        private final Names names = new Names();
        private final int[] row = new int[COLUMNS];
        private int filled;
        final Tape tape = new Tape();
        final Told draft = new Told();
        int fault;
        int place;

        void read(int n) {
            fault = 0;
            place = NONE;
            draft.clear();
            names.clear();
            tape.rewind(n);
            boolean more = true;
            // a LINE takes a byte at least, so there are no more LINES than bytes
            for (int line = 0; line <= n && more; line++) {
                more = readLine() && goesOn();
            }
            if (fault == 0 && draft.howMany(NAIL) == 0) {
                fail(LACKS);
            }
        }

        private boolean fail(int number) {
            fault = number;
            place = tape.start;
            return false;
        }

        private boolean goesOn() {
            tape.advance();
            if (tape.token == Tape.END) {
                return false;
            }
            return tape.token == Tape.SEMICOLON || fail(FORM);
        }

        private boolean readLine() {
            tape.advance();
            int sort = sortOfLine();
            if (sort < 0 || sort >= ROOM.length) {
                return fail(FORM);
            }
            boolean webTold = draft.howMany(WEB) > 0;
            if (sort == WEB && webTold) {
                return fail(AGAIN);
            }
            if (draft.howMany(sort) >= ROOM[sort]) {
                return fail(MANY);
            }
            if (sort != WEB && !webTold) {
                return fail(LACKS);
            }
            clearRow();
            if (!readBehind(sort)) {
                return false;
            }
            draft.add(sort, row);
            return true;
        }

        private int sortOfLine() {
            if (tape.isWord("web")) {
                return WEB;
            }
            if (tape.isWord("nail")) {
                return NAIL;
            }
            if (tape.isWord("thread")) {
                return THREAD;
            }
            if (tape.isWord("clash")) {
                return CLASH;
            }
            if (tape.isWord("load")) {
                return LOAD;
            }
            if (tape.isWord("offer")) {
                return OFFER;
            }
            if (tape.isWord("unsure")) {
                return UNSURE;
            }
            return tape.isWord("hair") ? HAIR : NONE;
        }

        private boolean readBehind(int sort) {
            switch (sort) {
                case WEB:
                    return takeWord("slips") && takeWhole(0, HUNDRED) && takeWord("clerks") && takeWhole(0, HUNDRED);
                case NAIL:
                    return takeNewName(NAIL);
                case THREAD:
                    return takeNewName(THREAD) && takeKind()
                        && takeName(NAIL) && takeName(NAIL) && areUnlike()
                        && takeWord("strong") && takeWhole(1, MOST_STRENGTH)
                        && takeWord("step") && takeWhole(0, 20);
                case CLASH:
                    return takeName(THREAD) && takeName(THREAD) && areUnlike() && isNewClash();
                case LOAD:
                    return takeName(NAIL) && takeName(NAIL) && areUnlike() && takeWhole(1, 300);
                case OFFER:
                    return takeName(NAIL) && takeName(NAIL) && areUnlike()
                        && takeWord("strong") && takeWhole(1, MOST_STRENGTH)
                        && takeWord("costs") && takeWhole(0, 99);
                case UNSURE:
                    return takeName(THREAD) && isNewUnsure();
                default:
                    return takeName(THREAD) && takeName(THREAD) && takeHow();
            }
        }

        private void clearRow() {
            for (int i = 0; i < COLUMNS; i++) {
                row[i] = 0;
            }
            filled = 0;
        }

        private boolean put(int number) {
            if (filled < COLUMNS) {
                row[filled] = number;
                filled++;
            }
            return true;
        }

        private boolean takeWord(String text) {
            tape.advance();
            return tape.isWord(text) || fail(FORM);
        }

        private boolean takeWhole(int least, int most) {
            tape.advance();
            if (tape.token != Tape.WHOLE) {
                return fail(FORM);
            }
            if (tape.value < least || tape.value > most) {
                return fail(OUT_OF_BOUNDS);
            }
            return put(tape.value);
        }

        private boolean takeNewName(int sort) {
            tape.advance();
            if (tape.token != Tape.WORD || sortOfLine() != NONE) {
                return fail(FORM);
            }
            if (names.isTold(tape.code)) {
                return fail(AGAIN);
            }
            names.add(tape.code, sort, draft.howMany(sort));
            return true;
        }

        private boolean takeName(int sort) {
            tape.advance();
            if (tape.token != Tape.WORD || sortOfLine() != NONE) {
                return fail(FORM);
            }
            int number = names.numberOf(tape.code, sort);
            return number == NONE ? fail(UNTOLD) : put(number);
        }

        /** Whether the latest two numbers of the row are unlike. */
        private boolean areUnlike() {
            boolean alike = filled >= 2 && filled <= COLUMNS && row[filled - 1] == row[filled - 2];
            return !alike || fail(AGAIN);
        }

        private boolean takeKind() {
            tape.advance();
            if (tape.isWord("kept")) {
                return put(KEPT);
            }
            if (tape.isWord("fading")) {
                return put(FADING);
            }
            if (tape.isWord("proving")) {
                return put(PROVING);
            }
            return tape.isWord("lied") ? put(LIED) : fail(FORM);
        }

        private boolean takeHow() {
            tape.advance();
            if (tape.isWord("brown")) {
                return put(1);
            }
            return tape.isWord("clear") ? put(0) : fail(FORM);
        }

        private boolean isNewClash() {
            boolean told = has(draft.clashingWith(row[FIRST]), row[SECOND]);
            return !told || fail(AGAIN);
        }

        private boolean isNewUnsure() {
            for (int k = 0; k < draft.howMany(UNSURE); k++) {
                if (draft.cell(UNSURE, k, FIRST) == row[FIRST]) {
                    return fail(AGAIN);
                }
            }
            return true;
        }
    }

    /** What ACTS change, in one row, so that it can be kept and brought back whole. */
    private static final class State {
        private static final int YEARS = 0;
        private static final int THREADS = 1;
        private static final int SNAPPED = 2;
        private static final int HEAD = 3;
        static final int CELLS = HEAD + MOST_THREADS * COLUMNS;

        private final int[] cells = new int[CELLS];

        void begin(Told told) {
            cells[YEARS] = 0;
            cells[THREADS] = 0;
            cells[SNAPPED] = 0;
            for (int t = 0; t < told.howMany(THREAD); t++) {
                addKept(told.cell(THREAD, t, ONE_END), told.cell(THREAD, t, OTHER_END), told.cell(THREAD, t, STRONG));
                setCell(t, KIND, told.cell(THREAD, t, KIND));
                setCell(t, STEP, told.cell(THREAD, t, STEP));
            }
        }

        void addKept(int one, int other, int strong) {
            int t = cells[THREADS];
            if (t < MOST_THREADS) {
                cells[THREADS] = t + 1;
                setCell(t, KIND, KEPT);
                setCell(t, ONE_END, one);
                setCell(t, OTHER_END, other);
                setCell(t, STRONG, strong);
                setCell(t, STEP, 0);
                setCell(t, SINCE, cells[YEARS]);
            }
        }

        private boolean isThere(int t, int column) {
            return t >= 0 && t < cells[THREADS] && t < MOST_THREADS && column >= 0 && column < COLUMNS;
        }

        private void setCell(int t, int column, int number) {
            if (isThere(t, column)) {
                cells[HEAD + t * COLUMNS + column] = number;
            }
        }

        int cell(int t, int column) {
            return isThere(t, column) ? cells[HEAD + t * COLUMNS + column] : 0;
        }

        int threads() {
            return cells[THREADS];
        }

        int yearsGone() {
            return cells[YEARS];
        }

        int age(int t) {
            return cells[YEARS] - cell(t, SINCE);
        }

        boolean isSnapped(int t) {
            return has(cells[SNAPPED], t);
        }

        int strength(int t, int more) {
            if (isSnapped(t)) {
                return 0;
            }
            int strong = cell(t, STRONG);
            int step = cell(t, STEP);
            int years = cells[YEARS] - cell(t, SINCE) + more;
            switch (cell(t, KIND)) {
                case FADING:
                    return Math.max(0, strong - step * years);
                case PROVING:
                    return Math.min(MOST_STRENGTH, strong + step * years);
                case LIED:
                    return years >= step ? 0 : strong;
                default:
                    return strong;
            }
        }

        void passYear() {
            cells[YEARS]++;
        }

        void setSnapped(int t) {
            cells[SNAPPED] |= 1 << t;
        }

        void renew(int t) {
            cells[SNAPPED] &= ~(1 << t);
            setCell(t, SINCE, cells[YEARS]);
        }

        void copyTo(int[] shelf, int slot) {
            if (slot >= 0 && slot < shelf.length / CELLS) {
                System.arraycopy(cells, 0, shelf, slot * CELLS, CELLS);
            }
        }

        void copyFrom(int[] shelf, int slot) {
            if (slot >= 0 && slot < shelf.length / CELLS) {
                System.arraycopy(shelf, slot * CELLS, cells, 0, CELLS);
            }
        }
    }

    /** States to which UNDO and IMAGES lead. */
    private static final class Past {
        static final int MOST_IMAGES = 3;
        private static final int MOST_ACTS = 16;
        private final int[] acts = new int[MOST_ACTS * State.CELLS];
        private final int[] images = new int[MOST_IMAGES * State.CELLS];
        private int next;
        int count;
        int imaged;

        void forget() {
            count = 0;
            imaged = 0;
        }

        /** The seventeenth is kept where the first was. */
        void keep(State state) {
            state.copyTo(acts, next);
            next = (next + 1) % MOST_ACTS;
            count = Math.min(count + 1, MOST_ACTS);
        }

        void takeBack(State state) {
            if (count > 0) {
                next = (next + MOST_ACTS - 1) % MOST_ACTS;
                count--;
                state.copyFrom(acts, next);
            }
        }

        void takeImage(State state) {
            if (imaged < MOST_IMAGES) {
                state.copyTo(images, imaged);
                imaged++;
            }
        }

        void goBack(State state, int image) {
            if (image >= 0 && image < imaged) {
                state.copyFrom(images, image);
                count = 0;
            }
        }
    }

    /**
     * The web in some year: threads at bits 0 to 7, offers, as if they were spun, behind them. What can
     * be led from nail to nail at once is as much as the weakest parting of the nails lets through.
     */
    private static final class Bearing {
        private static final int SLOTS = MOST_THREADS + MOST_OFFERS;
        private static final int THREAD_SETS = 1 << MOST_THREADS;
        private static final int OFFER_SETS = 1 << MOST_OFFERS;
        private static final int MOST_PARTINGS = 1 << (MOST_NAILS - 2);

        private final int[] one = new int[SLOTS];
        private final int[] other = new int[SLOTS];
        private final int[] strength = new int[SLOTS];
        private final int[] threadSums = new int[THREAD_SETS];
        private final int[] offerSums = new int[OFFER_SETS];
        private final int[] partings = new int[MOST_PARTINGS];
        private final boolean[] won = new boolean[THREAD_SETS];
        private int nails;
        private int parted;

        static int ofOffers(int offers) {
            return offers << MOST_THREADS;
        }

        void arrange(State state, Told told) {
            nails = Math.min(told.howMany(NAIL), MOST_NAILS);
            for (int t = 0; t < MOST_THREADS; t++) {
                one[t] = state.cell(t, ONE_END);
                other[t] = state.cell(t, OTHER_END);
            }
            for (int k = 0; k < MOST_OFFERS; k++) {
                one[MOST_THREADS + k] = told.cell(OFFER, k, FIRST);
                other[MOST_THREADS + k] = told.cell(OFFER, k, SECOND);
                strength[MOST_THREADS + k] = told.cell(OFFER, k, THIRD);
            }
            fillSums(offerSums, MOST_THREADS, MOST_OFFERS);
        }

        void strengthen(State state, int more) {
            for (int t = 0; t < MOST_THREADS; t++) {
                strength[t] = t < state.threads() ? state.strength(t, more) : 0;
            }
            fillSums(threadSums, 0, MOST_THREADS);
        }

        /** The strength of each set of the slots from one on, made out of sets with one less. */
        private void fillSums(int[] sums, int from, int slots) {
            for (int i = 0; i < slots; i++) {
                int bit = 1 << i;
                for (int rest = 0; rest < bit; rest++) {
                    if (from + i < SLOTS && bit + rest < sums.length) {
                        sums[bit + rest] = sums[rest] + strength[from + i];
                    }
                }
            }
        }

        int sumOf(int bits) {
            return threadSums[bits & (THREAD_SETS - 1)] + offerSums[(bits >> MOST_THREADS) & (OFFER_SETS - 1)];
        }

        int held() {
            int bits = 0;
            for (int t = 0; t < MOST_THREADS; t++) {
                bits |= strength[t] > 0 ? 1 << t : 0;
            }
            return bits;
        }

        int heldAt(int nail) {
            int bits = 0;
            for (int t = 0; t < MOST_THREADS; t++) {
                boolean there = one[t] == nail || other[t] == nail;
                bits |= there && strength[t] > 0 ? 1 << t : 0;
            }
            return bits;
        }

        /** Lists what stands between the one nail's side and the other's, for each way to part all nails. */
        void part(int a, int b) {
            parted = 0;
            for (int side = 0; side < 1 << nails; side++) {
                if (has(side, a) && !has(side, b) && parted < MOST_PARTINGS) {
                    partings[parted] = across(side);
                    parted++;
                }
            }
        }

        private int across(int side) {
            int bits = 0;
            for (int i = 0; i < SLOTS; i++) {
                bits |= has(side, one[i]) != has(side, other[i]) ? 1 << i : 0;
            }
            return bits;
        }

        int borneBy(int threads) {
            int least = NONE;
            for (int i = 0; i < parted; i++) {
                int much = sumOf(partings[i] & threads);
                least = least == NONE || much < least ? much : least;
            }
            return Math.max(least, 0);
        }

        int between(int a, int b) {
            part(a, b);
            return borneBy(held());
        }

        /** A CUT leaves nothing over, so it is a parting to the thread. */
        int fewestCut() {
            int held = held();
            int much = borneBy(held);
            int best = held;
            for (int i = 0; i < parted; i++) {
                int bits = partings[i] & held;
                if (sumOf(bits) == much && isLess(bits, best)) {
                    best = bits;
                }
            }
            return best;
        }

        private static boolean isLess(int bits, int than) {
            int difference = Integer.bitCount(bits) - Integer.bitCount(than);
            return difference < 0 || difference == 0 && bits < than;
        }

        private int reachedFrom(int side, int threads) {
            int reached = side;
            for (int t = 0; t < MOST_THREADS; t++) {
                if (has(threads, t) && (has(side, one[t]) || has(side, other[t]))) {
                    reached |= (1 << one[t]) | (1 << other[t]);
                }
            }
            return reached;
        }

        int steps(int a, int b) {
            int held = held();
            int reached = 1 << a;
            for (int step = 0; step < nails; step++) {
                if (has(reached, b)) {
                    return step;
                }
                reached = reachedFrom(reached, held);
            }
            return NEVER;
        }

        int pieces(int threads) {
            int seen = 0;
            int number = 0;
            for (int a = 0; a < nails; a++) {
                if (!has(seen, a)) {
                    number++;
                    seen |= pieceOf(a, threads);
                }
            }
            return number;
        }

        private int pieceOf(int a, int threads) {
            int reached = 1 << a;
            for (int step = 1; step < nails; step++) {
                reached = reachedFrom(reached, threads);
            }
            return reached;
        }

        /** Who wins from each set of threads left: a set that BEARS nothing was left by one who lost. */
        void playTurns(int a, int b) {
            part(a, b);
            int held = held();
            for (int left = 0; left < THREAD_SETS; left++) {
                if (isWithin(left, held)) {
                    won[left] = borneBy(left) == 0 || winningSnap(left) != NEVER;
                }
            }
        }

        boolean wins(int left) {
            return left >= 0 && left < THREAD_SETS && won[left];
        }

        int winningSnap(int left) {
            for (int t = 0; t < MOST_THREADS; t++) {
                if (has(left, t) && !wins(left ^ (1 << t))) {
                    return t;
                }
            }
            return NEVER;
        }
    }

    /** FITS, each set of unsure threads with how likely the hairs are told so by it. */
    private static final class Liars {
        private static final int MOST_SETS = 1 << MOST_UNSURE;
        private final long[] weights = new long[MOST_SETS];
        private int unsure;
        private int sets;

        void weigh(Told told) {
            unsure = Math.min(told.howMany(UNSURE), MOST_UNSURE);
            sets = 1 << unsure;
            for (int set = 0; set < sets; set++) {
                weights[set] = weightOf(told, set);
            }
        }

        /** In hundredths to the power of the hairs, six at most: a long holds the sum. */
        private static long weightOf(Told told, int set) {
            int slips = told.slipsInHundred();
            long weight = 1;
            for (int k = 0; k < told.howMany(HAIR); k++) {
                boolean brown = isBrown(told, told.cell(HAIR, k, FIRST), told.cell(HAIR, k, SECOND), set);
                weight *= brown == told.isToldBrown(k) ? HUNDRED - slips : slips;
            }
            return weight;
        }

        private static boolean isBrown(Told told, int t, int u, int set) {
            return isLiedOn(told, t, set) || isLiedOn(told, u, set);
        }

        private static boolean isLiedOn(Told told, int t, int set) {
            for (int k = 0; k < told.howMany(UNSURE); k++) {
                if (told.cell(UNSURE, k, FIRST) == t) {
                    return has(set, k);
                }
            }
            return told.isLied(t);
        }

        int fitting() {
            int number = 0;
            for (int set = 0; set < sets; set++) {
                number += weights[set] > 0 ? 1 : 0;
            }
            return number;
        }

        int fittingAt(int i) {
            int left = i;
            for (int set = 0; set < sets; set++) {
                if (weights[set] > 0) {
                    if (left == 0) {
                        return set;
                    }
                    left--;
                }
            }
            return NONE;
        }

        long whole() {
            long sum = 0;
            for (int set = 0; set < sets; set++) {
                sum += weights[set];
            }
            return sum;
        }

        long weightWith(int k) {
            long sum = 0;
            for (int set = 0; set < sets; set++) {
                sum += has(set, k) ? weights[set] : 0;
            }
            return sum;
        }

        long weightOfBrown(Told told, int t, int u) {
            long sum = 0;
            for (int set = 0; set < sets; set++) {
                sum += isBrown(told, t, u, set) ? weights[set] : 0;
            }
            return sum;
        }

        int heaviest() {
            int best = NEVER;
            long most = 0;
            for (int set = 0; set < sets; set++) {
                if (weights[set] > most) {
                    most = weights[set];
                    best = set;
                }
            }
            return best;
        }

        int leftAtMost(int k) {
            int lied = 0;
            for (int set = 0; set < sets; set++) {
                lied += has(set, k) && weights[set] > 0 ? 1 : 0;
            }
            return Math.max(lied, fitting() - lied);
        }

        int bestAsked() {
            if (fitting() == 0) {
                return NEVER;
            }
            int best = NEVER;
            int least = 0;
            for (int k = 0; k < unsure; k++) {
                int left = leftAtMost(k);
                if (best == NEVER || left < least) {
                    least = left;
                    best = k;
                }
            }
            return best;
        }
    }

    /** CLERKS by a SEED. */
    private static final class Clerks {
        private int seed;
        int snapped;

        void begin(int from) {
            seed = from;
            snapped = 0;
        }

        void passYear(State state, int year, int inHundred) {
            for (int t = 0; t < state.threads(); t++) {
                boolean holds = !has(snapped, t) && state.strength(t, year) > 0;
                if (holds && draw() % HUNDRED < inHundred) {
                    snapped |= 1 << t;
                }
            }
        }

        private int draw() {
            seed = (75 * seed + 74) % 65537;
            return seed;
        }
    }

    /** A share in lowest terms. */
    private static final class Share {
        private long upper;
        private long lower;

        /** 0 by 1 where there is no whole. */
        void set(long part, long whole) {
            long divisor = commonOf(part, whole);
            boolean none = whole == 0 || divisor == 0;
            upper = none ? 0 : part / divisor;
            lower = none ? 1 : whole / divisor;
        }

        private static long commonOf(long x, long y) {
            long divisor = x;
            long rest = y;
            // two longs take some ninety steps at most
            for (int i = 0; i < 200 && rest != 0; i++) {
                long next = divisor % rest;
                divisor = rest;
                rest = next;
            }
            return divisor;
        }

        long part(boolean ofLower) {
            return ofLower ? lower : upper;
        }
    }
}
