/** Two farms with a shared cow between them: ../shared/DOC.md says what each call promises. */
public final class HalvedCow {
    public static final int BAD = -1, FULL = -2, FINDING = -3, STATE = -4, SPENT = -6, NONE = -9;

    private static final int NOTHING = 1, BEYOND = 2, UNLIKE = 3, NOUGHT = 4, SIZE = 5;
    private static final int ROWS = 6, ROW_ROOM = 40, TEXTS = 4, TEXT_ROOM = 60, KEPT_PLACES = 3;
    private static final int MOST_TURNS = 8, MOST_MILKS = 6, MOST_BEASTS = 6, MOST_DEEDS = 60;
    private static final int LAST_DAY = 999, MOST_SUM = 99, MOST_LEAD = 99, MOST_BILL = 9999, EVEN_DAYS = 24;
    /** No gap, no number of WALKS comes near it. */
    private static final int ABOVE_ALL = 1000000;
    private static final int MISSING = -1, BLANK = 32, PUT_SHIFT = 1000, PAID_SHIFT = 10000;

    private static final int DRY = 1, YOUNG = 2, BULL = 3, HEIFER = 4, OX = 5;
    private static final int[] KIND_ABOVE = {-1, 0, 0, 0, 2, 3};
    private static final int[] KIND_LETTERS = {'c', 'd', 'y', 'u', 'h', 'x'};

    private static final int DAY_DEED = 0, DRIVE_DEED = 1, PAY_DEED = 2;
    private static final int MOST_ODDS_DAYS = 8, ODDS_OF = 12, MOST_LOTS = 20;
    private static final long LOT_FACTOR = 48271L, LOT_MODULUS = 2147483647L;

    private final Row[] rows = new Row[ROWS];
    private final Row[] texts = new Row[TEXTS];
    private final Farms now = new Farms();
    private final Farms[] kept = new Farms[KEPT_PLACES];
    private final Reader reader = new Reader();
    private final int[] findingCounts = new int[SIZE + 1];
    private int latestFinding;
    private int askedTold;
    private long upperTold;
    private long lowerTold = 1;

    public HalvedCow() {
        for (int r = 0; r < ROWS; r++) {
            rows[r] = new Row(ROW_ROOM);
        }
        for (int t = 0; t < TEXTS; t++) {
            texts[t] = new Row(TEXT_ROOM);
        }
        for (int k = 0; k < KEPT_PLACES; k++) {
            kept[k] = new Farms();
        }
    }

    // ---- 1 rows, texts, farms

    public int row(int r, int n) {
        return makeAnew(rows, r, n, 0);
    }

    public int lay(int r, int i, int v) {
        // What it was is told, and what is wrong refused, just as at() does it.
        int answer = at(r, i);
        if (answer == 1 && !isNone(r, ROWS) && rows[r].has(i)) {
            rows[r].places[i] = v;
        }
        return answer;
    }

    public int at(int r, int i) {
        if (isNone(r, ROWS)) {
            return BAD;
        }
        Row row = rows[r];
        if (row.isMissing()) {
            return refuse(NOTHING);
        }
        if (!row.has(i)) {
            return refuse(BEYOND);
        }
        askedTold = row.places[i];
        return 1;
    }

    public int tear(int r) {
        if (isNone(r, ROWS)) {
            return BAD;
        }
        if (rows[r].isMissing()) {
            return refuse(NOTHING);
        }
        rows[r].size = MISSING;
        return 1;
    }

    public int copy(int r, int i, int to, int j, int n) {
        if (isNone(r, ROWS) || isNone(to, ROWS)) {
            return BAD;
        }
        if (n < 0) {
            return refuse(SIZE);
        }
        if (rows[r].isMissing() || rows[to].isMissing()) {
            return refuse(NOTHING);
        }
        if (!rows[r].hasRun(i, n) || !rows[to].hasRun(j, n)) {
            return refuse(BEYOND);
        }
        System.arraycopy(rows[r].places, i, rows[to].places, j, n);
        return 1;
    }

    public int mean(int r) {
        if (isNone(r, ROWS)) {
            return BAD;
        }
        Row row = rows[r];
        if (row.isMissing()) {
            return refuse(NOTHING);
        }
        if (row.size == 0) {
            return refuse(NOUGHT);
        }
        askedTold = (int) (row.total() / row.size);
        return 1;
    }

    public int text(int t, int n) {
        return makeAnew(texts, t, n, BLANK);
    }

    public int put(int t, int i, int v) {
        if (isNone(t, TEXTS)) {
            return BAD;
        }
        Row text = texts[t];
        if (text.isMissing()) {
            return refuse(NOTHING);
        }
        if (!text.has(i)) {
            return refuse(BEYOND);
        }
        int was = text.places[i];
        text.places[i] = (byte) v;
        return was + PUT_SHIFT;
    }

    public int fault(int t) {
        if (isNone(t, TEXTS)) {
            return BAD;
        }
        if (texts[t].isMissing()) {
            return refuse(NOTHING);
        }
        return reader.read(texts[t]);
    }

    public int farms(int t) {
        if (isNone(t, TEXTS)) {
            return BAD;
        }
        if (texts[t].isMissing()) {
            return refuse(NOTHING);
        }
        if (reader.read(texts[t]) != NONE) {
            return STATE;
        }
        now.become(reader.draft);
        for (int k = 0; k < KEPT_PLACES; k++) {
            kept[k].clear();
        }
        return now.beastCount;
    }

    public int beast(int i, int what) {
        if (isNone(i, now.beastCount) || isNone(what, 5)) {
            return BAD;
        }
        askedTold = now.beasts[i].tell(what);
        return 1;
    }

    public int mark(int i, int kind) {
        if (isNone(i, now.beastCount) || outside(kind, DRY, OX)) {
            return BAD;
        }
        Beast beast = now.beasts[i];
        if (!beast.isOf(kind)) {
            return refuse(UNLIKE);
        }
        switch (kind) {
            case DRY:
                return 2 * beast.worth - beast.valueToFarm0;
            case YOUNG:
                return beast.valueToFarm1 - beast.valueToFarm0;
            case BULL:
                return beast.valueToFarm0 - beast.valueToFarm1;
            case HEIFER:
                return now.youngOnesOf(beast.owner) - 1;
            default:
                return now.howManyBelow(beast.valueToFarm0);
        }
    }

    public int turn(int k, int farm) {
        if (isNone(k, now.turnCount) || isNoFarm(farm)) {
            return BAD;
        }
        if (now.deedCount > 0) {
            return STATE;
        }
        int was = now.turns[k];
        now.turns[k] = farm;
        return was;
    }

    // ---- 2 deeds

    public int day() {
        if (now.isMissing() || now.today >= LAST_DAY) {
            return STATE;
        }
        if (now.deedCount >= MOST_DEEDS) {
            return FULL;
        }
        now.letDayGoBy();
        return now.today;
    }

    public int drive(int i) {
        if (isNone(i, now.beastCount)) {
            return BAD;
        }
        if (now.deedCount >= MOST_DEEDS) {
            return FULL;
        }
        now.driveOver(i);
        return now.beasts[i].owner;
    }

    public int pay(int farm, int sum) {
        if (isNoFarm(farm) || outside(sum, 1, MOST_SUM)) {
            return BAD;
        }
        if (now.isMissing()) {
            return STATE;
        }
        if (now.deedCount >= MOST_DEEDS) {
            return FULL;
        }
        now.payOver(farm, sum);
        return now.paid + PAID_SHIFT;
    }

    public int undo(int n) {
        if (outside(n, 0, now.deedCount)) {
            return BAD;
        }
        int undone = now.deedCount - n;
        now.undoFrom(n);
        return undone;
    }

    public int keep(int k) {
        if (isNone(k, KEPT_PLACES)) {
            return BAD;
        }
        if (now.isMissing()) {
            return STATE;
        }
        kept[k].become(now);
        return now.deedCount;
    }

    public int on(int k) {
        if (isNone(k, KEPT_PLACES)) {
            return BAD;
        }
        if (kept[k].isMissing()) {
            return refuse(NOTHING);
        }
        now.become(kept[k]);
        return now.deedCount;
    }

    // ---- 3 turns, milk

    public int where(int d) {
        if (isNoDay(d)) {
            return BAD;
        }
        if (now.isMissing()) {
            return STATE;
        }
        return now.farmOn(d);
    }

    public int milk(int farm, int from, int to) {
        if (isNoFarm(farm) || isNoDay(from) || isNoDay(to) || to < from) {
            return BAD;
        }
        if (now.isMissing()) {
            return STATE;
        }
        return now.milkOf(farm, from, to);
    }

    public int walks(int d) {
        if (isNoDay(d)) {
            return BAD;
        }
        if (now.isMissing()) {
            return STATE;
        }
        int walked = 0;
        for (int e = 1; e <= d; e++) {
            if (now.farmOn(e) != now.farmOn(e - 1)) {
                walked++;
            }
        }
        return walked;
    }

    public int out(int v) {
        if (outside(v, 0, MOST_LEAD)) {
            return BAD;
        }
        if (now.isMissing()) {
            return STATE;
        }
        int lead = 0;
        for (int d = 0; d <= LAST_DAY; d++) {
            lead += now.leadOn(d);
            if (Math.abs(lead) > v) {
                askedTold = lead > 0 ? 0 : 1;
                return d;
            }
        }
        return NONE;
    }

    public int round() {
        if (now.turnCount < 1 || now.milkCount < 1) {
            return STATE;
        }
        for (int d = 1; d <= LAST_DAY; d++) {
            if (d % now.turnCount == 0 && d % now.milkCount == 0) {
                return d;
            }
        }
        return NONE;
    }

    public int best(int n, int r) {
        if (outside(n, 1, MOST_TURNS) || isNone(r, ROWS)) {
            return BAD;
        }
        if (now.isMissing()) {
            return STATE;
        }
        int bestCode = 0;
        int leastGap = ABOVE_ALL;
        int fewestWalks = ABOVE_ALL;
        for (int code = 0; code < 1 << n; code++) {
            int gap = Math.abs(leadByCode(code, n));
            int walked = walksByCode(code, n);
            if (gap < leastGap || gap == leastGap && walked < fewestWalks) {
                bestCode = code;
                leastGap = gap;
                fewestWalks = walked;
            }
        }
        layCode(rows[r], bestCode, n);
        askedTold = fewestWalks;
        return leastGap;
    }

    public int even() {
        if (now.isMissing()) {
            return STATE;
        }
        int[] leads = leadsByTurn();
        int fewest = MOST_TURNS + 1;
        int changed = 0;
        for (int set = 0; set < 1 << now.turnCount; set++) {
            int size = Integer.bitCount(set);
            if (size < fewest && leadIfChanged(leads, set) == 0) {
                fewest = size;
                changed = set;
            }
        }
        if (fewest > MOST_TURNS) {
            return NONE;
        }
        askedTold = changed;
        return fewest;
    }

    // ---- 4 partings

    public int value(int of, int to) {
        if (isNoFarm(of) || isNoFarm(to)) {
            return BAD;
        }
        return now.valueOfSet(now.setOf(of), to);
    }

    public int fair() {
        if (now.isMissing()) {
            return STATE;
        }
        return now.noneEnvies(now.setOf(1), now.paid) ? 1 : 0;
    }

    public int ways() {
        if (now.isMissing()) {
            return STATE;
        }
        int fairOnes = 0;
        int fewestDriven = NONE;
        int all = now.allBeasts();
        int setNow = now.setOf(1);
        for (int set = 0; set <= all; set++) {
            if (now.noneEnvies(set, 0)) {
                int driven = Integer.bitCount(set ^ setNow);
                fairOnes++;
                fewestDriven = fewestDriven == NONE ? driven : Math.min(fewestDriven, driven);
            }
        }
        askedTold = fewestDriven;
        return fairOnes;
    }

    public int part() {
        if (now.isMissing()) {
            return STATE;
        }
        int bestSet = 0;
        int greatest = -1;
        int all = now.allBeasts();
        for (int set = 0; set <= all; set++) {
            int lesser = Math.min(now.valueOfSet(all ^ set, 0), now.valueOfSet(set, 1));
            if (lesser > greatest) {
                greatest = lesser;
                bestSet = set;
            }
        }
        askedTold = greatest;
        return bestSet;
    }

    public int sum() {
        if (now.isMissing()) {
            return STATE;
        }
        int set = now.setOf(1);
        for (int paidNow = 0; paidNow <= MOST_SUM; paidNow++) {
            boolean byFarm0 = now.noneEnvies(set, now.paid - paidNow);
            if (byFarm0 || now.noneEnvies(set, now.paid + paidNow)) {
                askedTold = paidNow == 0 ? NONE : byFarm0 ? 0 : 1;
                return paidNow;
            }
        }
        return NONE;
    }

    public int heirs() {
        if (now.isMissing()) {
            return STATE;
        }
        int partings = 1;
        for (int i = 0; i < now.beastCount; i++) {
            partings *= 3;
        }
        int least = ABOVE_ALL;
        int first = 0;
        for (int parting = 0; parting < partings; parting++) {
            int gap = gapOfHeirs(parting);
            if (gap < least) {
                least = gap;
                first = parting;
            }
        }
        askedTold = first;
        return least;
    }

    // ---- 5 calves, bills, books

    public int calf(int d, int reading) {
        if (isNoDay(d) || isNoReading(reading)) {
            return BAD;
        }
        if (now.isMissing()) {
            return STATE;
        }
        return calfByReading(d, reading, now.leadUpTo(d));
    }

    public int quarrel(int d, int a, int b) {
        if (isNoDay(d) || isNoReading(a) || isNoReading(b) || a == b) {
            return BAD;
        }
        if (now.isMissing()) {
            return STATE;
        }
        int lead = now.leadUpTo(d - 1);
        for (int e = d; e <= LAST_DAY; e++) {
            lead += now.leadOn(e);
            if (calfByReading(e, a, lead) != calfByReading(e, b, lead)) {
                return e;
            }
        }
        return NONE;
    }

    public int bill(int sum, int d) {
        if (outside(sum, 1, MOST_BILL) || isNoDay(d)) {
            return BAD;
        }
        if (now.isMissing()) {
            return STATE;
        }
        int ofFarm0 = now.milkOf(0, 0, d);
        int ofBoth = ofFarm0 + now.milkOf(1, 0, d);
        if (ofBoth == 0) {
            tellPart(sum, 2);
        } else {
            tellPart((long) sum * ofFarm0, ofBoth);
        }
        return 1;
    }

    public int fits(int r, int n) {
        if (isNone(r, ROWS) || outside(n, 1, MOST_TURNS)) {
            return BAD;
        }
        int wrong = findingOfBook(rows[r]);
        if (wrong != 0) {
            return refuse(wrong);
        }
        int zeros = turnsInBook(rows[r], n, 0);
        int ones = turnsInBook(rows[r], n, 1);
        if ((zeros & ones) != 0) {
            askedTold = NONE;
            tellPart(0, 1);
        } else {
            askedTold = ones;
            tellPart(1L << (n - Integer.bitCount(zeros | ones)), 1);
        }
        return 1;
    }

    public int sure(int r, int n, int d) {
        if (isNone(r, ROWS) || outside(n, 1, MOST_TURNS) || isNoDay(d)) {
            return BAD;
        }
        int wrong = findingOfBook(rows[r]);
        if (wrong != 0) {
            return refuse(wrong);
        }
        int zeros = turnsInBook(rows[r], n, 0);
        int ones = turnsInBook(rows[r], n, 1);
        int turn = 1 << (d % n);
        if ((zeros & ones) != 0 || ((zeros | ones) & turn) == 0) {
            return NONE;
        }
        return (ones & turn) != 0 ? 1 : 0;
    }

    // ---- 6 chances, lots

    public int odds(int farm, int n, int p) {
        if (isNoFarm(farm) || outside(n, 0, MOST_ODDS_DAYS) || outside(p, 0, ODDS_OF)) {
            return BAD;
        }
        if (now.isMissing()) {
            return STATE;
        }
        long dies = 0;
        long lives = 1;
        long whole = 1;
        for (int k = 0; k < n; k++) {
            dies *= ODDS_OF;
            if (now.farmOn(now.today + k) == farm) {
                dies += lives * p;
            }
            lives *= ODDS_OF - p;
            whole *= ODDS_OF;
        }
        tellPart(dies, whole);
        return 1;
    }

    public int lots(int n, int seed) {
        if (outside(n, 1, MOST_LOTS) || seed < 1 || seed >= LOT_MODULUS) {
            return BAD;
        }
        if (now.isMissing()) {
            return STATE;
        }
        if (now.deedCount + n > MOST_DEEDS) {
            return FULL;
        }
        long lot = seed;
        for (int k = 0; k < n; k++) {
            lot = lot * LOT_FACTOR % LOT_MODULUS;
            doByLot((int) lot);
        }
        return Integer.bitCount(now.setOf(0));
    }

    // ---- 7 what is told

    public int asked() {
        return askedTold;
    }

    public long upper() {
        return upperTold;
    }

    public long lower() {
        return lowerTold;
    }

    public int count(int what) {
        switch (what) {
            case 0:
                return now.beastCount;
            case 1:
                return now.turnCount;
            case 2:
                return now.milkCount;
            case 3:
                return now.today;
            case 4:
                return now.deedCount;
            case 5:
                return now.paid + PAID_SHIFT;
            case 6:
                return now.bulls();
            case 7:
                return howManyThere(rows);
            case 8:
                return howManyThere(texts);
            case 9:
                return howManyKept();
            default:
                return BAD;
        }
    }

    public int finding() {
        return latestFinding;
    }

    public int findings(int f) {
        if (outside(f, NOTHING, SIZE)) {
            return BAD;
        }
        return findingCounts[f];
    }

    public long digest() {
        long h = 17;
        for (int what = 0; what <= 9; what++) {
            h = 31 * h + count(what);
        }
        for (int k = 0; k < now.turnCount; k++) {
            h = 31 * h + now.turns[k];
        }
        for (int i = 0; i < now.beastCount; i++) {
            for (int what = 0; what <= 4; what++) {
                h = 31 * h + now.beasts[i].tell(what);
            }
        }
        for (int k = 0; k < KEPT_PLACES; k++) {
            h = 31 * h + (kept[k].isMissing() ? MISSING : kept[k].deedCount);
        }
        return digestRows(digestRows(h, rows), texts);
    }

    // ---- refusals, and what several calls share

    private static boolean outside(int v, int least, int most) {
        return v < least || v > most;
    }

    private static boolean isNone(int i, int howMany) {
        return i < 0 || i >= howMany;
    }

    private static boolean isNoFarm(int farm) {
        return outside(farm, 0, 1);
    }

    private static boolean isNoDay(int d) {
        return outside(d, 0, LAST_DAY);
    }

    private static boolean isNoReading(int reading) {
        return outside(reading, 0, 3);
    }

    private int refuse(int which) {
        if (!isNone(which, findingCounts.length)) {
            latestFinding = which;
            findingCounts[which]++;
        }
        return FINDING;
    }

    private int makeAnew(Row[] among, int r, int n, int filler) {
        if (isNone(r, among.length) || n > among[r].places.length) {
            return BAD;
        }
        if (n < 0) {
            return refuse(SIZE);
        }
        among[r].become(n, filler);
        return n;
    }

    private void tellPart(long of, long whole) {
        long divisor = commonDivisor(of, whole);
        if (divisor > 0) {
            upperTold = of / divisor;
            lowerTold = whole / divisor;
        }
    }

    private static long commonDivisor(long a, long b) {
        long greater = a;
        long lesser = b;
        // Euclid's steps on two longs are fewer than a hundred.
        for (int step = 0; step < 100 && lesser != 0; step++) {
            long rest = greater % lesser;
            greater = lesser;
            lesser = rest;
        }
        return greater;
    }

    private static int howManyThere(Row[] among) {
        int there = 0;
        for (int r = 0; r < among.length; r++) {
            if (!among[r].isMissing()) {
                there++;
            }
        }
        return there;
    }

    private int howManyKept() {
        int there = 0;
        for (int k = 0; k < KEPT_PLACES; k++) {
            if (!kept[k].isMissing()) {
                there++;
            }
        }
        return there;
    }

    private static long digestRows(long before, Row[] among) {
        long h = before;
        for (int r = 0; r < among.length; r++) {
            h = 31 * h + among[r].size;
            for (int i = 0; i < among[r].size; i++) {
                h = 31 * h + among[r].places[i];
            }
        }
        return h;
    }

    // ---- turns that are tried: a code has DAY 0 in its highest bit, so that codes come in the order of the first DAYS

    private static int farmByCode(int code, int n, int d) {
        return code >> (n - 1 - d) & 1;
    }

    private int leadByCode(int code, int n) {
        int lead = 0;
        for (int d = 0; d < n; d++) {
            lead += farmByCode(code, n, d) == 0 ? now.milkOn(d) : -now.milkOn(d);
        }
        return lead;
    }

    private static int walksByCode(int code, int n) {
        // Where a bit differs from the next one, the cow walks; the highest one has none ahead of it.
        return Integer.bitCount((code ^ code >> 1) & (1 << (n - 1)) - 1);
    }

    private static void layCode(Row row, int code, int n) {
        row.become(n, 0);
        for (int d = 0; d < row.size; d++) {
            row.places[d] = farmByCode(code, n, d);
        }
    }

    /** What each TURN adds to FARM 0's lead over the DAYS that even() looks at. */
    private int[] leadsByTurn() {
        int[] leads = new int[MOST_TURNS];
        if (outside(now.turnCount, 1, MOST_TURNS)) {
            return leads;
        }
        for (int d = 0; d < EVEN_DAYS; d++) {
            leads[d % now.turnCount] += now.leadOn(d);
        }
        return leads;
    }

    private static int leadIfChanged(int[] leads, int set) {
        int lead = 0;
        for (int k = 0; k < leads.length; k++) {
            lead += (set >> k & 1) == 0 ? leads[k] : -leads[k];
        }
        return lead;
    }

    // ---- heirs, readings, books, lots

    private int gapOfHeirs(int parting) {
        int part0 = 0;
        int part1 = 0;
        int part2 = 0;
        int rest = parting;
        for (int i = now.beastCount - 1; i >= 0; i--) {
            int worth = now.beasts[i].valueToFarm0;
            switch (rest % 3) {
                case 0:
                    part0 += worth;
                    break;
                case 1:
                    part1 += worth;
                    break;
                default:
                    part2 += worth;
                    break;
            }
            rest /= 3;
        }
        int greatest = Math.max(part0, Math.max(part1, part2));
        return greatest - Math.min(part0, Math.min(part1, part2));
    }

    /** The lead is told by the caller, who may have it from the DAY ahead: quarrel() asks this for up to 1000 DAYS. */
    private int calfByReading(int d, int reading, int lead) {
        switch (reading) {
            case 0:
                return now.farmOn(d);
            case 1:
                return now.farmOn(Math.max(0, d - 1));
            case 2:
                return lead >= 0 ? 0 : 1;
            default:
                return now.farmWalkedToBehind(d);
        }
    }

    private static int findingOfBook(Row book) {
        if (book.isMissing()) {
            return NOTHING;
        }
        if (book.size % 2 != 0) {
            return SIZE;
        }
        for (int i = 0; i + 1 < book.size; i += 2) {
            if (isNoDay(book.places[i]) || isNoFarm(book.places[i + 1])) {
                return UNLIKE;
            }
        }
        return 0;
    }

    /** Which of n TURNS the book tells to be a FARM's, as bits; a TURN that it tells to be both's fits nothing. */
    private static int turnsInBook(Row book, int n, int farm) {
        int set = 0;
        for (int i = 0; n > 0 && i + 1 < book.size; i += 2) {
            if (book.places[i + 1] == farm) {
                set |= 1 << (book.places[i] % n);
            }
        }
        return set;
    }

    private void doByLot(int lot) {
        switch (lot % 3) {
            case 0:
                now.letDayGoBy();
                break;
            case 1:
                if (now.beastCount > 0) {
                    now.driveOver(lot / 8 % now.beastCount);
                }
                break;
            default:
                now.payOver(lot / 16 % 2, lot / 64 % 9 + 1);
                break;
        }
    }

    /** A ROW, or a TEXT with a byte in each place; its room is made once, so that no call needs more of it. */
    private static final class Row {
        final int[] places;
        int size = MISSING;

        Row(int room) {
            places = new int[Math.max(0, room)];
        }

        boolean isMissing() {
            return size < 0;
        }

        boolean has(int i) {
            return i >= 0 && i < size;
        }

        boolean hasRun(int i, int n) {
            // n is held against what is left, as i + n may be more than an int holds.
            return i >= 0 && n >= 0 && i <= size && n <= size - i;
        }

        void become(int n, int filler) {
            size = Math.min(n, places.length);
            for (int i = 0; i < size; i++) {
                places[i] = filler;
            }
        }

        long total() {
            long all = 0;
            for (int i = 0; i < size; i++) {
                all += places[i];
            }
            return all;
        }
    }

    private static final class Beast {
        int kind;
        int worth;
        int owner;
        int valueToFarm0;
        int valueToFarm1;

        boolean isOf(int wanted) {
            int k = kind;
            for (int step = 0; step < KIND_ABOVE.length && k >= 0 && k < KIND_ABOVE.length; step++) {
                if (k == wanted) {
                    return true;
                }
                k = KIND_ABOVE[k];
            }
            return false;
        }

        /** KIND and WORTH never change afterwards, so VALUES are reckoned here once for the many partings. */
        void become(int newKind, int newWorth, int newOwner) {
            kind = newKind;
            worth = newWorth;
            owner = newOwner;
            valueToFarm0 = (isOf(DRY) ? 1 : isOf(BULL) ? 4 : 2) * worth;
            valueToFarm1 = (isOf(DRY) ? 1 : 2) * worth;
            if (isOf(YOUNG)) {
                valueToFarm1 += 3;
            }
            int besides = isOf(HEIFER) ? 2 : isOf(OX) ? -1 : 0;
            valueToFarm0 += besides;
            valueToFarm1 += besides;
        }

        int valueTo(int farm) {
            return farm == 0 ? valueToFarm0 : valueToFarm1;
        }

        int tell(int what) {
            switch (what) {
                case 0:
                    return kind;
                case 1:
                    return worth;
                case 2:
                    return owner;
                case 3:
                    return valueToFarm0;
                default:
                    return valueToFarm1;
            }
        }
    }

    /** All that keep() keeps; without BEASTS it is missing. */
    private static final class Farms {
        final int[] turns = new int[MOST_TURNS];
        final int[] milks = new int[MOST_MILKS];
        final Beast[] beasts = new Beast[MOST_BEASTS];
        final int[] deedKinds = new int[MOST_DEEDS];
        /** The BEAST that was driven, or by how much paid grew. */
        final int[] deedThings = new int[MOST_DEEDS];
        int turnCount;
        int milkCount;
        int beastCount;
        int deedCount;
        int today;
        /** What FARM 0 was PAID less what it PAID; FARM 1's is the same below 0. */
        int paid;

        Farms() {
            for (int i = 0; i < MOST_BEASTS; i++) {
                beasts[i] = new Beast();
            }
        }

        boolean isMissing() {
            return beastCount == 0;
        }

        void clear() {
            turnCount = 0;
            milkCount = 0;
            beastCount = 0;
            deedCount = 0;
            today = 0;
            paid = 0;
        }

        void become(Farms other) {
            System.arraycopy(other.turns, 0, turns, 0, MOST_TURNS);
            System.arraycopy(other.milks, 0, milks, 0, MOST_MILKS);
            for (int i = 0; i < other.beastCount; i++) {
                Beast from = other.beasts[i];
                beasts[i].become(from.kind, from.worth, from.owner);
            }
            System.arraycopy(other.deedKinds, 0, deedKinds, 0, MOST_DEEDS);
            System.arraycopy(other.deedThings, 0, deedThings, 0, MOST_DEEDS);
            turnCount = other.turnCount;
            milkCount = other.milkCount;
            beastCount = other.beastCount;
            deedCount = other.deedCount;
            today = other.today;
            paid = other.paid;
        }

        boolean addTurn(int farm) {
            if (turnCount >= MOST_TURNS) {
                return false;
            }
            turns[turnCount++] = farm;
            return true;
        }

        boolean addMilk(int figure) {
            if (milkCount >= MOST_MILKS) {
                return false;
            }
            milks[milkCount++] = figure;
            return true;
        }

        boolean addBeast(int kind, int worth, int owner) {
            if (beastCount >= MOST_BEASTS) {
                return false;
            }
            beasts[beastCount++].become(kind, worth, owner);
            return true;
        }

        // -- deeds: no DEED is done that could not be written down, as undo() needs it

        private boolean writeDeed(int deedKind, int thing) {
            if (deedCount >= MOST_DEEDS) {
                return false;
            }
            deedKinds[deedCount] = deedKind;
            deedThings[deedCount] = thing;
            deedCount++;
            return true;
        }

        void letDayGoBy() {
            if (today < LAST_DAY && writeDeed(DAY_DEED, 0)) {
                today++;
            }
        }

        void driveOver(int i) {
            if (!isNone(i, beastCount) && writeDeed(DRIVE_DEED, i)) {
                beasts[i].owner = 1 - beasts[i].owner;
            }
        }

        void payOver(int farm, int amount) {
            int gain = farm == 0 ? -amount : amount;
            if (writeDeed(PAY_DEED, gain)) {
                paid += gain;
            }
        }

        void undoFrom(int n) {
            for (int k = deedCount - 1; k >= n && k >= 0; k--) {
                undoDeed(deedKinds[k], deedThings[k]);
                deedCount = k;
            }
        }

        private void undoDeed(int deedKind, int thing) {
            if (deedKind == DAY_DEED) {
                today--;
            } else if (deedKind == PAY_DEED) {
                paid -= thing;
            } else if (!isNone(thing, MOST_BEASTS)) {
                beasts[thing].owner = 1 - beasts[thing].owner;
            }
        }

        // -- the SHARED cow; leads are FARM 0's MILK less FARM 1's

        int farmOn(int d) {
            if (d < 0 || turnCount < 1) {
                return 0;
            }
            return turns[d % turnCount];
        }

        int milkOn(int d) {
            if (d < 0 || milkCount < 1) {
                return 0;
            }
            return milks[d % milkCount];
        }

        int leadOn(int d) {
            return farmOn(d) == 0 ? milkOn(d) : -milkOn(d);
        }

        int leadUpTo(int d) {
            int lead = 0;
            for (int e = 0; e <= d; e++) {
                lead += leadOn(e);
            }
            return lead;
        }

        int milkOf(int farm, int from, int to) {
            int had = 0;
            for (int d = from; d <= to; d++) {
                if (farmOn(d) == farm) {
                    had += milkOn(d);
                }
            }
            return had;
        }

        int farmWalkedToBehind(int d) {
            int here = farmOn(d);
            for (int k = 0; k < turnCount; k++) {
                if (turns[k] != here) {
                    return turns[k];
                }
            }
            return NONE;
        }

        // -- partings, as the set of BEASTS that FARM 1 has

        int allBeasts() {
            return (1 << beastCount) - 1;
        }

        int setOf(int farm) {
            int set = 0;
            for (int i = 0; i < beastCount; i++) {
                if (beasts[i].owner == farm) {
                    set |= 1 << i;
                }
            }
            return set;
        }

        int valueOfSet(int set, int farm) {
            int all = 0;
            for (int i = 0; i < beastCount; i++) {
                if ((set >> i & 1) != 0) {
                    all += beasts[i].valueTo(farm);
                }
            }
            return all;
        }

        boolean noneEnvies(int set, int paidToFarm0) {
            int rest = allBeasts() ^ set;
            return valueOfSet(rest, 0) + paidToFarm0 >= valueOfSet(set, 0) - paidToFarm0
                && valueOfSet(set, 1) - paidToFarm0 >= valueOfSet(rest, 1) + paidToFarm0;
        }

        // -- what BEASTS tell of one another

        int youngOnesOf(int farm) {
            int young = 0;
            for (int i = 0; i < beastCount; i++) {
                if (beasts[i].owner == farm && beasts[i].isOf(YOUNG)) {
                    young++;
                }
            }
            return young;
        }

        int howManyBelow(int toFarm0) {
            int below = 0;
            for (int i = 0; i < beastCount; i++) {
                if (beasts[i].valueToFarm0 < toFarm0) {
                    below++;
                }
            }
            return below;
        }

        int bulls() {
            int found = 0;
            for (int i = 0; i < beastCount; i++) {
                if (beasts[i].isOf(BULL)) {
                    found++;
                }
            }
            return found;
        }
    }

    /** Reads a TEXT into a draft of its own, so that a TEXT with a FAULT leaves the FARMS alone. */
    private static final class Reader {
        /** No byte is this. */
        private static final int END = 256;

        final Farms draft = new Farms();
        private int place;

        /** The FAULT, or NONE. */
        int read(Row text) {
            draft.clear();
            place = 0;
            boolean whole = readTurns(text) && readMilks(text) && readBeasts(text);
            return whole ? NONE : place;
        }

        private boolean readTurns(Row text) {
            skipBlanks(text);
            if (!take(text, 't')) {
                return false;
            }
            while (place < text.size && farmOfLetter(text.places[place]) != NONE) {
                if (!draft.addTurn(farmOfLetter(text.places[place]))) {
                    return false;
                }
                place++;
            }
            return draft.turnCount > 0;
        }

        private boolean readMilks(Row text) {
            skipBlanks(text);
            if (!take(text, 'm')) {
                return false;
            }
            while (place < text.size && !outside(text.places[place], '0', '9')) {
                if (!draft.addMilk(text.places[place] - '0')) {
                    return false;
                }
                place++;
            }
            return draft.milkCount > 0;
        }

        private boolean readBeasts(Row text) {
            skipBlanks(text);
            for (int i = 0; i < MOST_BEASTS && place < text.size; i++) {
                if (!readBeast(text)) {
                    return false;
                }
                skipBlanks(text);
            }
            return draft.beastCount > 0 && place >= text.size;
        }

        private boolean readBeast(Row text) {
            int kind = kindOfLetter(signHere(text));
            if (kind == NONE) {
                return false;
            }
            place++;
            int figure = signHere(text);
            if (outside(figure, '1', '9')) {
                return false;
            }
            place++;
            int owner = farmOfLetter(signHere(text));
            if (owner == NONE) {
                return false;
            }
            place++;
            return draft.addBeast(kind, figure - '0', owner);
        }

        private void skipBlanks(Row text) {
            while (place < text.size && text.places[place] == BLANK) {
                place++;
            }
        }

        private boolean take(Row text, int letter) {
            if (signHere(text) != letter) {
                return false;
            }
            place++;
            return true;
        }

        private int signHere(Row text) {
            return text.has(place) ? text.places[place] : END;
        }

        private static int farmOfLetter(int letter) {
            return letter == 'a' ? 0 : letter == 'b' ? 1 : NONE;
        }

        private static int kindOfLetter(int letter) {
            for (int kind = 0; kind < KIND_LETTERS.length; kind++) {
                if (KIND_LETTERS[kind] == letter) {
                    return kind;
                }
            }
            return NONE;
        }
    }
}
